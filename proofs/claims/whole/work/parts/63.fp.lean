def nD (E T : Nat) : UInt64 := FP.Core.of64 (.fin false (4503599627370496 + T) ((E : Int) - 1075))
theorem nD_fits {E T : Nat} (h1 : 1 ≤ E) (h2 : E ≤ 2046) (ht : T < 4503599627370496) : FP.Core.fits FP.Core.b64 (.fin false (4503599627370496 + T) ((E : Int) - 1075)) := by
  have e1 : FP.Core.b64.qmin = -1074 := by decide
  have e2 : FP.Core.b64.qmax = 971 := by decide
  have e3 : 2 ^ FP.Core.b64.p = 9007199254740992 := by decide
  have e4 : FP.Core.b64.tails = 4503599627370496 := by decide
  refine ⟨?_, ?_, ?_, Or.inr ?_⟩
  · rw [e3]; omega
  · rw [e1]; omega
  · rw [e2]; omega
  · rw [e4]; omega
theorem nD_val {E T : Nat} (h1 : 1 ≤ E) (h2 : E ≤ 2046) (ht : T < 4503599627370496) : FP.Core.val64 (nD E T) = .fin false (4503599627370496 + T) ((E : Int) - 1075) := FP.Core.val64_of64 (nD_fits h1 h2 ht)
theorem nD_ne {E T : Nat} (h1 : 1 ≤ E) (h2 : E ≤ 2046) (ht : T < 4503599627370496) : FP.Core.val64 (nD E T) ≠ .nan := by rw [nD_val h1 h2 ht]; exact FP.Core.Datum.noConfusion
theorem nD_nat {E T : Nat} (h1 : 1 ≤ E) (h2 : E ≤ 2046) (ht : T < 4503599627370496) : (nD E T).toNat = E * 4503599627370496 + T := by
  have e1 : FP.Core.b64.qmin = -1074 := by decide
  have e4 : FP.Core.b64.tails = 4503599627370496 := by decide
  have e5 : FP.Core.b64.exps = 2048 := by decide
  show (UInt64.ofNat (if 4503599627370496 + T < FP.Core.b64.tails then FP.Core.assemble FP.Core.b64 false 0 (4503599627370496 + T) else FP.Core.assemble FP.Core.b64 false (((E : Int) - 1075 - FP.Core.b64.qmin).toNat + 1) (4503599627370496 + T - FP.Core.b64.tails))).toNat = _
  rw [e4, if_neg (by omega)]
  unfold FP.Core.assemble
  rw [e1, e4, e5, UInt64.toNat_ofNat']
  have : ((E : Int) - 1075 - -1074).toNat + 1 = E := by omega
  rw [this]
  show ((0 * 2048 + E) * 4503599627370496 + (4503599627370496 + T - 4503599627370496)) % 18446744073709551616 = _
  omega
theorem nD_key {E T : Nat} (h1 : 1 ≤ E) (h2 : E ≤ 2046) (ht : T < 4503599627370496) : FP.Core.dkey (nD E T) = ((E * 4503599627370496 + T : Nat) : Int) := by
  unfold FP.Core.dkey
  rw [nD_nat h1 h2 ht, if_neg (by omega)]
theorem v_two64 : FP.Core.val64 4611686018427387904 = .fin false 4503599627370496 (-51) := by decide +kernel
theorem v_one64 : FP.Core.val64 4607182418800017408 = .fin false 4503599627370496 (-52) := by decide +kernel
theorem v_big64 : FP.Core.val64 4841369599423283200 = .fin false 4503599627370496 0 := by decide +kernel
theorem k_two64 : FP.Core.dkey 4611686018427387904 = 4611686018427387904 := by decide +kernel
theorem k_one64 : FP.Core.dkey 4607182418800017408 = 4607182418800017408 := by decide +kernel
theorem nD_half {E T : Nat} (h1 : 2 ≤ E) (h2 : E ≤ 2046) (ht : T < 4503599627370496) : FP.Core.ddiv (nD E T) 4611686018427387904 = nD (E - 1) T := by
  have hv : FP.Core.val64 (FP.Core.ddiv (nD E T) 4611686018427387904) = FP.Core.val64 (nD (E - 1) T) := by
    rw [FP.Core.val64_ddiv, nD_val (by omega) h2 ht, v_two64, nD_val (by omega) (by omega) ht]
    show FP.Core.roundRatio FP.Core.b64 false (4503599627370496 + T) 4503599627370496 ((E : Int) - 1075 - -51) = _
    refine FP.Core.roundRatio_exact FP.Core.good_b64 (by decide) (nD_fits (by omega) (by omega) ht) ?_
    rw [show ((E : Int) - 1075 - -51 - (((E - 1 : Nat) : Int) - 1075)).toNat = 52 by omega, show (((E - 1 : Nat) : Int) - 1075 - ((E : Int) - 1075 - -51)).toNat = 0 by omega]
    rw [Nat.pow_zero, Nat.mul_one]
  exact FP.Core.val64_inj (by rw [hv]; exact nD_ne (by omega) (by omega) ht) hv
theorem nD_dbl {E T : Nat} (h1 : 1 ≤ E) (h2 : E ≤ 2045) (ht : T < 4503599627370496) : FP.Core.dmul (nD E T) 4611686018427387904 = nD (E + 1) T := by
  have hv : FP.Core.val64 (FP.Core.dmul (nD E T) 4611686018427387904) = FP.Core.val64 (nD (E + 1) T) := by
    rw [FP.Core.val64_dmul, nD_val (by omega) (by omega) ht, v_two64, nD_val (by omega) (by omega) ht]
    show FP.Core.roundRatio FP.Core.b64 false ((4503599627370496 + T) * 4503599627370496) 1 ((E : Int) - 1075 + -51) = _
    refine FP.Core.roundRatio_exact FP.Core.good_b64 (by decide) (nD_fits (by omega) (by omega) ht) ?_
    rw [show ((E : Int) - 1075 + -51 - (((E + 1 : Nat) : Int) - 1075)).toNat = 0 by omega, show (((E + 1 : Nat) : Int) - 1075 - ((E : Int) - 1075 + -51)).toNat = 52 by omega]
    rw [Nat.pow_zero, Nat.mul_one, Nat.mul_one]
  exact FP.Core.val64_inj (by rw [hv]; exact nD_ne (by omega) (by omega) ht) hv
theorem nD_ge2 {E T : Nat} (h1 : 1 ≤ E) (h2 : E ≤ 2046) (ht : T < 4503599627370496) : FP.Core.dcmp (nD E T) 4611686018427387904 = some .lt ↔ E < 1024 := by
  rw [FP.Core.dcmp_lt_key (nD_ne h1 h2 ht) (by rw [v_two64]; exact FP.Core.Datum.noConfusion), nD_key h1 h2 ht, k_two64]
  omega
theorem nD_lt1 {E T : Nat} (h1 : 1 ≤ E) (h2 : E ≤ 2046) (ht : T < 4503599627370496) : FP.Core.dcmp (nD E T) 4607182418800017408 = some .lt ↔ E < 1023 := by
  rw [FP.Core.dcmp_lt_key (nD_ne h1 h2 ht) (by rw [v_one64]; exact FP.Core.Datum.noConfusion), nD_key h1 h2 ht, k_one64]
  omega
theorem nD_gt0 {E T : Nat} (h1 : 1 ≤ E) (h2 : E ≤ 2046) (ht : T < 4503599627370496) : FP.Core.dcmp (nD E T) 0 = some .gt := by
  rw [FP.Core.dcmp_gt_key (nD_ne h1 h2 ht) (by decide +kernel), nD_key h1 h2 ht, show FP.Core.dkey 0 = 0 by decide +kernel]
  omega
/-- the part behind the leading digit, as a whole number -/
theorem nD_frac {T : Nat} (ht : T < 4503599627370496) : ∃ d, FP.Core.dsub (nD 1023 T) 4607182418800017408 = d ∧ FP.Core.val64 d ≠ .nan ∧ FP.Core.val64 (FP.Core.dmul d 4841369599423283200) ≠ .nan ∧ FP.Core.DInt (T : Int) (FP.Core.dmul d 4841369599423283200) := by
  refine ⟨_, rfl, ?_⟩
  have e1 : FP.Core.b64.qmin = -1074 := by decide
  have e2 : FP.Core.b64.qmax = 971 := by decide
  have e3 : 2 ^ FP.Core.b64.p = 9007199254740992 := by decide
  have e4 : FP.Core.b64.tails = 4503599627370496 := by decide
  have hs : FP.Core.val64 (FP.Core.dsub (nD 1023 T) 4607182418800017408) = FP.Core.roundRatio FP.Core.b64 false T 1 (-52) := by
    rw [FP.Core.val64_dsub, nD_val (by decide) (by decide) ht, v_one64]
    have hu : FP.Core.sumUnits false (4503599627370496 + T) (-52) true 4503599627370496 (-52) (-52) = (T : Int) := by
      unfold FP.Core.sumUnits FP.Core.signed FP.Core.inUnits
      rw [show ((-52 : Int) - -52).toNat = 0 by decide, Nat.pow_zero, Nat.mul_one, Nat.mul_one, if_neg (by decide), if_pos rfl]
      omega
    show FP.Core.roundRatio FP.Core.b64 (FP.Core.sumSign false true (FP.Core.sumUnits false (4503599627370496 + T) (-52) true 4503599627370496 (-52) (-52))) (FP.Core.sumUnits false (4503599627370496 + T) (-52) true 4503599627370496 (-52) (-52)).natAbs 1 (-52) = _
    rw [hu]
    have hsg : FP.Core.sumSign false true (T : Int) = false := by
      unfold FP.Core.sumSign
      split
      · rfl
      · exact decide_eq_false (by omega)
    rw [hsg]
    rfl
  by_cases h0 : T = 0
  · subst h0
    have hs0 : FP.Core.val64 (FP.Core.dsub (nD 1023 0) 4607182418800017408) = .fin false 0 (-1074) := by rw [hs]; decide +kernel
    have hm : FP.Core.val64 (FP.Core.dmul (FP.Core.dsub (nD 1023 0) 4607182418800017408) 4841369599423283200) = .fin false 0 (-1074) := by
      rw [FP.Core.val64_dmul, hs0, v_big64]
      decide +kernel
    refine ⟨by rw [hs0]; exact FP.Core.Datum.noConfusion, by rw [hm]; exact FP.Core.Datum.noConfusion, ?_⟩
    show FP.Core.Whole _ (FP.Core.val64 _)
    rw [hm]
    show FP.Core.signed false (0 * 2 ^ (-1074 : Int).toNat) = (0 : Int) * _
    rw [Nat.zero_mul, Int.zero_mul]
    rfl
  · have a1 : 2 ^ T.log2 ≤ T := Nat.log2_self_le h0
    have a2 : T < 2 ^ (T.log2 + 1) := Nat.lt_log2_self
    have hl : T.log2 ≤ 51 := by
      have : 2 ^ T.log2 < 2 ^ 52 := by omega
      have := (Nat.pow_lt_pow_iff_right (by decide : 1 < 2)).mp this
      omega
    obtain ⟨k, hk⟩ : ∃ k, k = 52 - T.log2 := ⟨_, rfl⟩
    have p1 : 2 ^ T.log2 * 2 ^ k = 4503599627370496 := by rw [← Nat.pow_add, hk, show T.log2 + (52 - T.log2) = 52 by omega]
    have p2 : 2 ^ (T.log2 + 1) * 2 ^ k = 9007199254740992 := by rw [← Nat.pow_add, hk, show T.log2 + 1 + (52 - T.log2) = 53 by omega]
    have c1 : 4503599627370496 ≤ T * 2 ^ k := by rw [← p1]; exact Nat.mul_le_mul_right _ a1
    have c2 : T * 2 ^ k < 9007199254740992 := by rw [← p2]; exact Nat.mul_lt_mul_of_pos_right a2 (Nat.two_pow_pos k)
    have f1 : FP.Core.fits FP.Core.b64 (.fin false (T * 2 ^ k) (-52 - (k : Int))) := by
      refine ⟨by rw [e3]; exact c2, by rw [e1]; omega, by rw [e2]; omega, Or.inr (by rw [e4]; exact c1)⟩
    have f2 : FP.Core.fits FP.Core.b64 (.fin false (T * 2 ^ k) (-(k : Int))) := by
      refine ⟨by rw [e3]; exact c2, by rw [e1]; omega, by rw [e2]; omega, Or.inr (by rw [e4]; exact c1)⟩
    have hs1 : FP.Core.val64 (FP.Core.dsub (nD 1023 T) 4607182418800017408) = .fin false (T * 2 ^ k) (-52 - (k : Int)) := by
      rw [hs]
      refine FP.Core.roundRatio_exact FP.Core.good_b64 (by decide) f1 ?_
      rw [show (-52 - (-52 - (k : Int))).toNat = k by omega, show (-52 - (k : Int) - -52).toNat = 0 by omega, Nat.pow_zero, Nat.mul_one, Nat.mul_one]
    have hm : FP.Core.val64 (FP.Core.dmul (FP.Core.dsub (nD 1023 T) 4607182418800017408) 4841369599423283200) = .fin false (T * 2 ^ k) (-(k : Int)) := by
      rw [FP.Core.val64_dmul, hs1, v_big64]
      show FP.Core.roundRatio FP.Core.b64 false (T * 2 ^ k * 4503599627370496) 1 (-52 - (k : Int) + 0) = _
      refine FP.Core.roundRatio_exact FP.Core.good_b64 (by decide) f2 ?_
      rw [show (-52 - (k : Int) + 0 - -(k : Int)).toNat = 0 by omega, show (-(k : Int) - (-52 - (k : Int) + 0)).toNat = 52 by omega, Nat.pow_zero, Nat.mul_one, Nat.mul_one]
    refine ⟨by rw [hs1]; exact FP.Core.Datum.noConfusion, by rw [hm]; exact FP.Core.Datum.noConfusion, ?_⟩
    show FP.Core.Whole _ (FP.Core.val64 _)
    rw [hm]
    show FP.Core.signed false (T * 2 ^ k * 2 ^ (-(k : Int)).toNat) = (T : Int) * ((2 ^ (-(-(k : Int))).toNat : Nat) : Int)
    rw [show (-(k : Int)).toNat = 0 by omega, show (-(-(k : Int))).toNat = k by omega, Nat.pow_zero, Nat.mul_one]
    show ((T * 2 ^ k : Nat) : Int) = _
    rw [Int.natCast_mul]
theorem wn64 {c : Nat} {q : Int} {i : Nat} (hf : FP.Core.fits FP.Core.b64 (.fin false c q)) (hw : FP.Core.Whole (i : Int) (.fin false c q)) (h0 : 0 < i) (h1 : i < 9007199254740992) : 4503599627370496 ≤ c ∧ c < 9007199254740992 ∧ -52 ≤ q ∧ q ≤ 0 := by
  have e1 : FP.Core.b64.qmin = -1074 := by decide
  have e3 : 2 ^ FP.Core.b64.p = 9007199254740992 := by decide
  have e4 : FP.Core.b64.tails = 4503599627370496 := by decide
  obtain ⟨f1, f2, f3, f4⟩ := hf
  rw [e3] at f1
  rw [e1] at f2 f4
  rw [e4] at f4
  have w : c * 2 ^ q.toNat = i * 2 ^ (-q).toNat := by
    have h : ((c * 2 ^ q.toNat : Nat) : Int) = (i : Int) * ((2 ^ (-q).toNat : Nat) : Int) := hw
    rw [← Int.natCast_mul] at h
    exact Int.ofNat.inj h
  have hc : 4503599627370496 ≤ c := by
    rcases f4 with f4 | f4
    · subst f4
      rw [show (-1074 : Int).toNat = 0 by decide, show (-(-1074 : Int)).toNat = 1074 by decide, Nat.pow_zero, Nat.mul_one] at w
      have : 2 ^ 53 ≤ 2 ^ 1074 := Nat.pow_le_pow_right (by decide) (by decide)
      have h2 : 1 * 2 ^ 1074 ≤ i * 2 ^ 1074 := Nat.mul_le_mul_right _ h0
      rw [← w, Nat.one_mul] at h2
      omega
    · exact f4
  have hq : q ≤ 0 := Classical.byContradiction fun n => by
    obtain ⟨m, hm⟩ : ∃ m, q.toNat = m + 1 := ⟨q.toNat - 1, by omega⟩
    rw [hm, show (-q).toNat = 0 by omega, Nat.pow_zero, Nat.mul_one, Nat.pow_succ] at w
    have : 1 ≤ 2 ^ m := Nat.one_le_two_pow
    have h2 : c * (1 * 2) ≤ c * (2 ^ m * 2) := Nat.mul_le_mul_left _ (Nat.mul_le_mul_right _ this)
    omega
  refine ⟨hc, f1, ?_, hq⟩
  refine Classical.byContradiction fun n => ?_
  rw [show q.toNat = 0 by omega, Nat.pow_zero, Nat.mul_one] at w
  have : 2 ^ 53 ≤ 2 ^ (-q).toNat := Nat.pow_le_pow_right (by decide) (by omega)
  have h2 : 1 * 2 ^ 53 ≤ i * 2 ^ (-q).toNat := Nat.mul_le_mul h0 this
  omega
theorem quo64 {c d : Nat} {e : Int} (hc : 4503599627370496 ≤ c) (hc2 : c < 9007199254740992) (hd : 4503599627370496 ≤ d) (hd2 : d < 9007199254740992) (he : -52 ≤ e) (he2 : e ≤ 52) : ∃ E T : Nat, 1 ≤ E ∧ E ≤ 2046 ∧ T < 4503599627370496 ∧ FP.Core.roundRatio FP.Core.b64 false c d e = .fin false (4503599627370496 + T) ((E : Int) - 1075) := by
  have e1 : FP.Core.b64.qmin = -1074 := by decide
  have e2 : FP.Core.b64.qmax = 971 := by decide
  have e3 : 2 ^ FP.Core.b64.p = 9007199254740992 := by decide
  have e4 : FP.Core.b64.tails = 4503599627370496 := by decide
  have e5 : (FP.Core.b64.p : Int) = 53 := by decide
  obtain ⟨l1, l2⟩ := FP.Core.leading_spec (A := c) (B := d) (by omega) (by omega)
  have m1 : FP.Core.leading c d < 1 := FP.Core.lt_of_below l1 (by
    show c * 2 ^ (-(1 : Int)).toNat < d * 2 ^ (1 : Int).toNat
    rw [show (-(1 : Int)).toNat = 0 by decide, show (1 : Int).toNat = 1 by decide, Nat.pow_zero, Nat.pow_one]
    omega)
  have m2 : -1 < FP.Core.leading c d + 1 := FP.Core.lt_of_below (a := -1) (fun h => by
    have h' : c * 2 ^ (-(-1 : Int)).toNat < d * 2 ^ (-1 : Int).toNat := h
    rw [show (-(-1 : Int)).toNat = 1 by decide, show (-1 : Int).toNat = 0 by decide, Nat.pow_zero, Nat.pow_one] at h'
    omega) l2
  have hq : FP.Core.quantum FP.Core.b64 c d e = FP.Core.leading c d + e - 52 := by
    unfold FP.Core.quantum
    rw [e1, e5]
    omega
  have fit := FP.Core.roundRatio_fits FP.Core.good_b64 false c (B := d) (by omega) e
  have hr : FP.Core.roundRatio FP.Core.b64 false c d e = FP.Core.settle FP.Core.b64 false (FP.Core.nearest (FP.Core.unitsNum c e (FP.Core.leading c d + e - 52)) (FP.Core.unitsDen d e (FP.Core.leading c d + e - 52))) (FP.Core.leading c d + e - 52) := by
    unfold FP.Core.roundRatio FP.Core.roundAt
    rw [if_neg (by omega), hq]
  rw [hr] at fit ⊢
  generalize FP.Core.nearest (FP.Core.unitsNum c e (FP.Core.leading c d + e - 52)) (FP.Core.unitsDen d e (FP.Core.leading c d + e - 52)) = n at fit ⊢
  unfold FP.Core.settle FP.Core.bound at fit ⊢
  rw [e2, e3, e4] at fit ⊢
  by_cases hn : n < 9007199254740992
  · rw [if_pos hn, if_pos (by omega)] at fit ⊢
    obtain ⟨g1, g2, g3, g4⟩ := fit
    rw [e1, e4] at g4
    have g5 : 4503599627370496 ≤ n := by
      rcases g4 with g4 | g4
      · omega
      · exact g4
    refine ⟨(FP.Core.leading c d + e - 52 + 1075).toNat, n - 4503599627370496, by omega, by omega, by omega, ?_⟩
    rw [show 4503599627370496 + (n - 4503599627370496) = n by omega, show (((FP.Core.leading c d + e - 52 + 1075).toNat : Nat) : Int) - 1075 = FP.Core.leading c d + e - 52 by omega]
  · rw [if_neg hn, if_pos (by omega)]
    refine ⟨(FP.Core.leading c d + e - 52 + 1 + 1075).toNat, 0, by omega, by omega, by omega, ?_⟩
    rw [show 4503599627370496 + 0 = 4503599627370496 by omega, show (((FP.Core.leading c d + e - 52 + 1 + 1075).toNat : Nat) : Int) - 1075 = FP.Core.leading c d + e - 52 + 1 by omega]
theorem wi64 {a : Int64} (h0 : 0 < a.toInt) (h1 : a.toInt < 9007199254740992) : ∃ c q, FP.Core.val64 (FP.Core.l2d a) = .fin false c q ∧ 4503599627370496 ≤ c ∧ c < 9007199254740992 ∧ -52 ≤ q ∧ q ≤ 0 := by
  have hs : FP.Core.Small53 a := by unfold FP.Core.Small53; omega
  have w := FP.Core.l2d_whole hs
  obtain ⟨c, q, e⟩ := FP.Core.l2d_shape a
  rw [show decide (a.toInt < 0) = false from decide_eq_false (by omega)] at e
  have f := FP.Core.val64_fits (FP.Core.l2d a)
  rw [e] at w f
  obtain ⟨i, hi⟩ : ∃ i : Nat, a.toInt = (i : Int) := ⟨a.toInt.toNat, by omega⟩
  rw [hi] at w h0 h1
  exact ⟨c, q, e, wn64 f w (by omega) (by omega)⟩
theorem mean64 {a b : Int64} (h0 : 0 < a.toInt) (h1 : a.toInt < 9007199254740992) (g0 : 0 < b.toInt) (g1 : b.toInt < 9007199254740992) : ∃ E T : Nat, 1 ≤ E ∧ E ≤ 2046 ∧ T < 4503599627370496 ∧ FP.Core.ddiv (FP.Core.l2d a) (FP.Core.l2d b) = nD E T := by
  obtain ⟨c, q, e, c1, c2, q1, q2⟩ := wi64 h0 h1
  obtain ⟨d, r, e', d1, d2, r1, r2⟩ := wi64 g0 g1
  obtain ⟨E, T, hE, hE2, hT, hr⟩ := quo64 (e := q - r) c1 c2 d1 d2 (by omega) (by omega)
  refine ⟨E, T, hE, hE2, hT, ?_⟩
  have hv : FP.Core.val64 (FP.Core.ddiv (FP.Core.l2d a) (FP.Core.l2d b)) = FP.Core.val64 (nD E T) := by
    rw [FP.Core.val64_ddiv, e, e', nD_val hE hE2 hT, ← hr]
    show (if d = 0 then _ else _) = _
    rw [if_neg (by omega)]
    rfl
  exact FP.Core.val64_inj (by rw [hv]; exact nD_ne hE hE2 hT) hv

def nF (E T : Nat) : UInt32 := FP.Core.of32 (.fin false (8388608 + T) ((E : Int) - 150))
theorem nF_fits {E T : Nat} (h1 : 1 ≤ E) (h2 : E ≤ 254) (ht : T < 8388608) : FP.Core.fits FP.Core.b32 (.fin false (8388608 + T) ((E : Int) - 150)) := by
  have e1 : FP.Core.b32.qmin = -149 := by decide
  have e2 : FP.Core.b32.qmax = 104 := by decide
  have e3 : 2 ^ FP.Core.b32.p = 16777216 := by decide
  have e4 : FP.Core.b32.tails = 8388608 := by decide
  refine ⟨?_, ?_, ?_, Or.inr ?_⟩
  · rw [e3]; omega
  · rw [e1]; omega
  · rw [e2]; omega
  · rw [e4]; omega
theorem nF_val {E T : Nat} (h1 : 1 ≤ E) (h2 : E ≤ 254) (ht : T < 8388608) : FP.Core.val32 (nF E T) = .fin false (8388608 + T) ((E : Int) - 150) := FP.Core.val32_of32 (nF_fits h1 h2 ht)
theorem nF_ne {E T : Nat} (h1 : 1 ≤ E) (h2 : E ≤ 254) (ht : T < 8388608) : FP.Core.val32 (nF E T) ≠ .nan := by rw [nF_val h1 h2 ht]; exact FP.Core.Datum.noConfusion
theorem nF_nat {E T : Nat} (h1 : 1 ≤ E) (h2 : E ≤ 254) (ht : T < 8388608) : (nF E T).toNat = E * 8388608 + T := by
  have e1 : FP.Core.b32.qmin = -149 := by decide
  have e4 : FP.Core.b32.tails = 8388608 := by decide
  have e5 : FP.Core.b32.exps = 256 := by decide
  show (UInt32.ofNat (if 8388608 + T < FP.Core.b32.tails then FP.Core.assemble FP.Core.b32 false 0 (8388608 + T) else FP.Core.assemble FP.Core.b32 false (((E : Int) - 150 - FP.Core.b32.qmin).toNat + 1) (8388608 + T - FP.Core.b32.tails))).toNat = _
  rw [e4, if_neg (by omega)]
  unfold FP.Core.assemble
  rw [e1, e4, e5, UInt32.toNat_ofNat']
  have : ((E : Int) - 150 - -149).toNat + 1 = E := by omega
  rw [this]
  show ((0 * 256 + E) * 8388608 + (8388608 + T - 8388608)) % 4294967296 = _
  omega
theorem nF_key {E T : Nat} (h1 : 1 ≤ E) (h2 : E ≤ 254) (ht : T < 8388608) : FP.Core.fkey (nF E T) = ((E * 8388608 + T : Nat) : Int) := by
  unfold FP.Core.fkey
  rw [nF_nat h1 h2 ht, if_neg (by omega)]
theorem v_two32 : FP.Core.val32 1073741824 = .fin false 8388608 (-22) := by decide +kernel
theorem v_one32 : FP.Core.val32 1065353216 = .fin false 8388608 (-23) := by decide +kernel
theorem v_big32 : FP.Core.val32 1258291200 = .fin false 8388608 0 := by decide +kernel
theorem k_two32 : FP.Core.fkey 1073741824 = 1073741824 := by decide +kernel
theorem k_one32 : FP.Core.fkey 1065353216 = 1065353216 := by decide +kernel
theorem nF_half {E T : Nat} (h1 : 2 ≤ E) (h2 : E ≤ 254) (ht : T < 8388608) : FP.Core.fdiv (nF E T) 1073741824 = nF (E - 1) T := by
  have hv : FP.Core.val32 (FP.Core.fdiv (nF E T) 1073741824) = FP.Core.val32 (nF (E - 1) T) := by
    rw [FP.Core.val32_fdiv, nF_val (by omega) h2 ht, v_two32, nF_val (by omega) (by omega) ht]
    show FP.Core.roundRatio FP.Core.b32 false (8388608 + T) 8388608 ((E : Int) - 150 - -22) = _
    refine FP.Core.roundRatio_exact FP.Core.good_b32 (by decide) (nF_fits (by omega) (by omega) ht) ?_
    rw [show ((E : Int) - 150 - -22 - (((E - 1 : Nat) : Int) - 150)).toNat = 23 by omega, show (((E - 1 : Nat) : Int) - 150 - ((E : Int) - 150 - -22)).toNat = 0 by omega]
    rw [Nat.pow_zero, Nat.mul_one]
  exact FP.Core.val32_inj (by rw [hv]; exact nF_ne (by omega) (by omega) ht) hv
theorem nF_dbl {E T : Nat} (h1 : 1 ≤ E) (h2 : E ≤ 253) (ht : T < 8388608) : FP.Core.fmul (nF E T) 1073741824 = nF (E + 1) T := by
  have hv : FP.Core.val32 (FP.Core.fmul (nF E T) 1073741824) = FP.Core.val32 (nF (E + 1) T) := by
    rw [FP.Core.val32_fmul, nF_val (by omega) (by omega) ht, v_two32, nF_val (by omega) (by omega) ht]
    show FP.Core.roundRatio FP.Core.b32 false ((8388608 + T) * 8388608) 1 ((E : Int) - 150 + -22) = _
    refine FP.Core.roundRatio_exact FP.Core.good_b32 (by decide) (nF_fits (by omega) (by omega) ht) ?_
    rw [show ((E : Int) - 150 + -22 - (((E + 1 : Nat) : Int) - 150)).toNat = 0 by omega, show (((E + 1 : Nat) : Int) - 150 - ((E : Int) - 150 + -22)).toNat = 23 by omega]
    rw [Nat.pow_zero, Nat.mul_one, Nat.mul_one]
  exact FP.Core.val32_inj (by rw [hv]; exact nF_ne (by omega) (by omega) ht) hv
theorem nF_ge2 {E T : Nat} (h1 : 1 ≤ E) (h2 : E ≤ 254) (ht : T < 8388608) : FP.Core.fcmp (nF E T) 1073741824 = some .lt ↔ E < 128 := by
  rw [FP.Core.fcmp_lt_key (nF_ne h1 h2 ht) (by rw [v_two32]; exact FP.Core.Datum.noConfusion), nF_key h1 h2 ht, k_two32]
  omega
theorem nF_lt1 {E T : Nat} (h1 : 1 ≤ E) (h2 : E ≤ 254) (ht : T < 8388608) : FP.Core.fcmp (nF E T) 1065353216 = some .lt ↔ E < 127 := by
  rw [FP.Core.fcmp_lt_key (nF_ne h1 h2 ht) (by rw [v_one32]; exact FP.Core.Datum.noConfusion), nF_key h1 h2 ht, k_one32]
  omega
theorem nF_gt0 {E T : Nat} (h1 : 1 ≤ E) (h2 : E ≤ 254) (ht : T < 8388608) : FP.Core.fcmp (nF E T) 0 = some .gt := by
  rw [FP.Core.fcmp_gt_key (nF_ne h1 h2 ht) (by decide +kernel), nF_key h1 h2 ht, show FP.Core.fkey 0 = 0 by decide +kernel]
  omega
/-- the part behind the leading digit, as a whole number -/
theorem nF_frac {T : Nat} (ht : T < 8388608) : ∃ d, FP.Core.fsub (nF 127 T) 1065353216 = d ∧ FP.Core.val32 d ≠ .nan ∧ FP.Core.val32 (FP.Core.fmul d 1258291200) ≠ .nan ∧ FP.Core.FInt (T : Int) (FP.Core.fmul d 1258291200) := by
  refine ⟨_, rfl, ?_⟩
  have e1 : FP.Core.b32.qmin = -149 := by decide
  have e2 : FP.Core.b32.qmax = 104 := by decide
  have e3 : 2 ^ FP.Core.b32.p = 16777216 := by decide
  have e4 : FP.Core.b32.tails = 8388608 := by decide
  have hs : FP.Core.val32 (FP.Core.fsub (nF 127 T) 1065353216) = FP.Core.roundRatio FP.Core.b32 false T 1 (-23) := by
    rw [FP.Core.val32_fsub, nF_val (by decide) (by decide) ht, v_one32]
    have hu : FP.Core.sumUnits false (8388608 + T) (-23) true 8388608 (-23) (-23) = (T : Int) := by
      unfold FP.Core.sumUnits FP.Core.signed FP.Core.inUnits
      rw [show ((-23 : Int) - -23).toNat = 0 by decide, Nat.pow_zero, Nat.mul_one, Nat.mul_one, if_neg (by decide), if_pos rfl]
      omega
    show FP.Core.roundRatio FP.Core.b32 (FP.Core.sumSign false true (FP.Core.sumUnits false (8388608 + T) (-23) true 8388608 (-23) (-23))) (FP.Core.sumUnits false (8388608 + T) (-23) true 8388608 (-23) (-23)).natAbs 1 (-23) = _
    rw [hu]
    have hsg : FP.Core.sumSign false true (T : Int) = false := by
      unfold FP.Core.sumSign
      split
      · rfl
      · exact decide_eq_false (by omega)
    rw [hsg]
    rfl
  by_cases h0 : T = 0
  · subst h0
    have hs0 : FP.Core.val32 (FP.Core.fsub (nF 127 0) 1065353216) = .fin false 0 (-149) := by rw [hs]; decide +kernel
    have hm : FP.Core.val32 (FP.Core.fmul (FP.Core.fsub (nF 127 0) 1065353216) 1258291200) = .fin false 0 (-149) := by
      rw [FP.Core.val32_fmul, hs0, v_big32]
      decide +kernel
    refine ⟨by rw [hs0]; exact FP.Core.Datum.noConfusion, by rw [hm]; exact FP.Core.Datum.noConfusion, ?_⟩
    show FP.Core.Whole _ (FP.Core.val32 _)
    rw [hm]
    show FP.Core.signed false (0 * 2 ^ (-149 : Int).toNat) = (0 : Int) * _
    rw [Nat.zero_mul, Int.zero_mul]
    rfl
  · have a1 : 2 ^ T.log2 ≤ T := Nat.log2_self_le h0
    have a2 : T < 2 ^ (T.log2 + 1) := Nat.lt_log2_self
    have hl : T.log2 ≤ 22 := by
      have : 2 ^ T.log2 < 2 ^ 23 := by omega
      have := (Nat.pow_lt_pow_iff_right (by decide : 1 < 2)).mp this
      omega
    obtain ⟨k, hk⟩ : ∃ k, k = 23 - T.log2 := ⟨_, rfl⟩
    have p1 : 2 ^ T.log2 * 2 ^ k = 8388608 := by rw [← Nat.pow_add, hk, show T.log2 + (23 - T.log2) = 23 by omega]
    have p2 : 2 ^ (T.log2 + 1) * 2 ^ k = 16777216 := by rw [← Nat.pow_add, hk, show T.log2 + 1 + (23 - T.log2) = 24 by omega]
    have c1 : 8388608 ≤ T * 2 ^ k := by rw [← p1]; exact Nat.mul_le_mul_right _ a1
    have c2 : T * 2 ^ k < 16777216 := by rw [← p2]; exact Nat.mul_lt_mul_of_pos_right a2 (Nat.two_pow_pos k)
    have f1 : FP.Core.fits FP.Core.b32 (.fin false (T * 2 ^ k) (-23 - (k : Int))) := by
      refine ⟨by rw [e3]; exact c2, by rw [e1]; omega, by rw [e2]; omega, Or.inr (by rw [e4]; exact c1)⟩
    have f2 : FP.Core.fits FP.Core.b32 (.fin false (T * 2 ^ k) (-(k : Int))) := by
      refine ⟨by rw [e3]; exact c2, by rw [e1]; omega, by rw [e2]; omega, Or.inr (by rw [e4]; exact c1)⟩
    have hs1 : FP.Core.val32 (FP.Core.fsub (nF 127 T) 1065353216) = .fin false (T * 2 ^ k) (-23 - (k : Int)) := by
      rw [hs]
      refine FP.Core.roundRatio_exact FP.Core.good_b32 (by decide) f1 ?_
      rw [show (-23 - (-23 - (k : Int))).toNat = k by omega, show (-23 - (k : Int) - -23).toNat = 0 by omega, Nat.pow_zero, Nat.mul_one, Nat.mul_one]
    have hm : FP.Core.val32 (FP.Core.fmul (FP.Core.fsub (nF 127 T) 1065353216) 1258291200) = .fin false (T * 2 ^ k) (-(k : Int)) := by
      rw [FP.Core.val32_fmul, hs1, v_big32]
      show FP.Core.roundRatio FP.Core.b32 false (T * 2 ^ k * 8388608) 1 (-23 - (k : Int) + 0) = _
      refine FP.Core.roundRatio_exact FP.Core.good_b32 (by decide) f2 ?_
      rw [show (-23 - (k : Int) + 0 - -(k : Int)).toNat = 0 by omega, show (-(k : Int) - (-23 - (k : Int) + 0)).toNat = 23 by omega, Nat.pow_zero, Nat.mul_one, Nat.mul_one]
    refine ⟨by rw [hs1]; exact FP.Core.Datum.noConfusion, by rw [hm]; exact FP.Core.Datum.noConfusion, ?_⟩
    show FP.Core.Whole _ (FP.Core.val32 _)
    rw [hm]
    show FP.Core.signed false (T * 2 ^ k * 2 ^ (-(k : Int)).toNat) = (T : Int) * ((2 ^ (-(-(k : Int))).toNat : Nat) : Int)
    rw [show (-(k : Int)).toNat = 0 by omega, show (-(-(k : Int))).toNat = k by omega, Nat.pow_zero, Nat.mul_one]
    show ((T * 2 ^ k : Nat) : Int) = _
    rw [Int.natCast_mul]
theorem wn32 {c : Nat} {q : Int} {i : Nat} (hf : FP.Core.fits FP.Core.b32 (.fin false c q)) (hw : FP.Core.Whole (i : Int) (.fin false c q)) (h0 : 0 < i) (h1 : i < 16777216) : 8388608 ≤ c ∧ c < 16777216 ∧ -23 ≤ q ∧ q ≤ 0 := by
  have e1 : FP.Core.b32.qmin = -149 := by decide
  have e3 : 2 ^ FP.Core.b32.p = 16777216 := by decide
  have e4 : FP.Core.b32.tails = 8388608 := by decide
  obtain ⟨f1, f2, f3, f4⟩ := hf
  rw [e3] at f1
  rw [e1] at f2 f4
  rw [e4] at f4
  have w : c * 2 ^ q.toNat = i * 2 ^ (-q).toNat := by
    have h : ((c * 2 ^ q.toNat : Nat) : Int) = (i : Int) * ((2 ^ (-q).toNat : Nat) : Int) := hw
    rw [← Int.natCast_mul] at h
    exact Int.ofNat.inj h
  have hc : 8388608 ≤ c := by
    rcases f4 with f4 | f4
    · subst f4
      rw [show (-149 : Int).toNat = 0 by decide, show (-(-149 : Int)).toNat = 149 by decide, Nat.pow_zero, Nat.mul_one] at w
      have : 2 ^ 24 ≤ 2 ^ 149 := Nat.pow_le_pow_right (by decide) (by decide)
      have h2 : 1 * 2 ^ 149 ≤ i * 2 ^ 149 := Nat.mul_le_mul_right _ h0
      rw [← w, Nat.one_mul] at h2
      omega
    · exact f4
  have hq : q ≤ 0 := Classical.byContradiction fun n => by
    obtain ⟨m, hm⟩ : ∃ m, q.toNat = m + 1 := ⟨q.toNat - 1, by omega⟩
    rw [hm, show (-q).toNat = 0 by omega, Nat.pow_zero, Nat.mul_one, Nat.pow_succ] at w
    have : 1 ≤ 2 ^ m := Nat.one_le_two_pow
    have h2 : c * (1 * 2) ≤ c * (2 ^ m * 2) := Nat.mul_le_mul_left _ (Nat.mul_le_mul_right _ this)
    omega
  refine ⟨hc, f1, ?_, hq⟩
  refine Classical.byContradiction fun n => ?_
  rw [show q.toNat = 0 by omega, Nat.pow_zero, Nat.mul_one] at w
  have : 2 ^ 24 ≤ 2 ^ (-q).toNat := Nat.pow_le_pow_right (by decide) (by omega)
  have h2 : 1 * 2 ^ 24 ≤ i * 2 ^ (-q).toNat := Nat.mul_le_mul h0 this
  omega
theorem quo32 {c d : Nat} {e : Int} (hc : 8388608 ≤ c) (hc2 : c < 16777216) (hd : 8388608 ≤ d) (hd2 : d < 16777216) (he : -23 ≤ e) (he2 : e ≤ 23) : ∃ E T : Nat, 1 ≤ E ∧ E ≤ 254 ∧ T < 8388608 ∧ FP.Core.roundRatio FP.Core.b32 false c d e = .fin false (8388608 + T) ((E : Int) - 150) := by
  have e1 : FP.Core.b32.qmin = -149 := by decide
  have e2 : FP.Core.b32.qmax = 104 := by decide
  have e3 : 2 ^ FP.Core.b32.p = 16777216 := by decide
  have e4 : FP.Core.b32.tails = 8388608 := by decide
  have e5 : (FP.Core.b32.p : Int) = 24 := by decide
  obtain ⟨l1, l2⟩ := FP.Core.leading_spec (A := c) (B := d) (by omega) (by omega)
  have m1 : FP.Core.leading c d < 1 := FP.Core.lt_of_below l1 (by
    show c * 2 ^ (-(1 : Int)).toNat < d * 2 ^ (1 : Int).toNat
    rw [show (-(1 : Int)).toNat = 0 by decide, show (1 : Int).toNat = 1 by decide, Nat.pow_zero, Nat.pow_one]
    omega)
  have m2 : -1 < FP.Core.leading c d + 1 := FP.Core.lt_of_below (a := -1) (fun h => by
    have h' : c * 2 ^ (-(-1 : Int)).toNat < d * 2 ^ (-1 : Int).toNat := h
    rw [show (-(-1 : Int)).toNat = 1 by decide, show (-1 : Int).toNat = 0 by decide, Nat.pow_zero, Nat.pow_one] at h'
    omega) l2
  have hq : FP.Core.quantum FP.Core.b32 c d e = FP.Core.leading c d + e - 23 := by
    unfold FP.Core.quantum
    rw [e1, e5]
    omega
  have fit := FP.Core.roundRatio_fits FP.Core.good_b32 false c (B := d) (by omega) e
  have hr : FP.Core.roundRatio FP.Core.b32 false c d e = FP.Core.settle FP.Core.b32 false (FP.Core.nearest (FP.Core.unitsNum c e (FP.Core.leading c d + e - 23)) (FP.Core.unitsDen d e (FP.Core.leading c d + e - 23))) (FP.Core.leading c d + e - 23) := by
    unfold FP.Core.roundRatio FP.Core.roundAt
    rw [if_neg (by omega), hq]
  rw [hr] at fit ⊢
  generalize FP.Core.nearest (FP.Core.unitsNum c e (FP.Core.leading c d + e - 23)) (FP.Core.unitsDen d e (FP.Core.leading c d + e - 23)) = n at fit ⊢
  unfold FP.Core.settle FP.Core.bound at fit ⊢
  rw [e2, e3, e4] at fit ⊢
  by_cases hn : n < 16777216
  · rw [if_pos hn, if_pos (by omega)] at fit ⊢
    obtain ⟨g1, g2, g3, g4⟩ := fit
    rw [e1, e4] at g4
    have g5 : 8388608 ≤ n := by
      rcases g4 with g4 | g4
      · omega
      · exact g4
    refine ⟨(FP.Core.leading c d + e - 23 + 150).toNat, n - 8388608, by omega, by omega, by omega, ?_⟩
    rw [show 8388608 + (n - 8388608) = n by omega, show (((FP.Core.leading c d + e - 23 + 150).toNat : Nat) : Int) - 150 = FP.Core.leading c d + e - 23 by omega]
  · rw [if_neg hn, if_pos (by omega)]
    refine ⟨(FP.Core.leading c d + e - 23 + 1 + 150).toNat, 0, by omega, by omega, by omega, ?_⟩
    rw [show 8388608 + 0 = 8388608 by omega, show (((FP.Core.leading c d + e - 23 + 1 + 150).toNat : Nat) : Int) - 150 = FP.Core.leading c d + e - 23 + 1 by omega]
theorem wi32 {a : Int64} (h0 : 0 < a.toInt) (h1 : a.toInt < 16777216) : ∃ c q, FP.Core.val32 (FP.Core.l2f a) = .fin false c q ∧ 8388608 ≤ c ∧ c < 16777216 ∧ -23 ≤ q ∧ q ≤ 0 := by
  have hs : FP.Core.Small24 a := by unfold FP.Core.Small24; omega
  have w := FP.Core.l2f_whole hs
  obtain ⟨c, q, e⟩ := FP.Core.l2f_shape a
  rw [show decide (a.toInt < 0) = false from decide_eq_false (by omega)] at e
  have f := FP.Core.val32_fits (FP.Core.l2f a)
  rw [e] at w f
  obtain ⟨i, hi⟩ : ∃ i : Nat, a.toInt = (i : Int) := ⟨a.toInt.toNat, by omega⟩
  rw [hi] at w h0 h1
  exact ⟨c, q, e, wn32 f w (by omega) (by omega)⟩
theorem mean32 {a b : Int64} (h0 : 0 < a.toInt) (h1 : a.toInt < 16777216) (g0 : 0 < b.toInt) (g1 : b.toInt < 16777216) : ∃ E T : Nat, 1 ≤ E ∧ E ≤ 254 ∧ T < 8388608 ∧ FP.Core.fdiv (FP.Core.l2f a) (FP.Core.l2f b) = nF E T := by
  obtain ⟨c, q, e, c1, c2, q1, q2⟩ := wi32 h0 h1
  obtain ⟨d, r, e', d1, d2, r1, r2⟩ := wi32 g0 g1
  obtain ⟨E, T, hE, hE2, hT, hr⟩ := quo32 (e := q - r) c1 c2 d1 d2 (by omega) (by omega)
  refine ⟨E, T, hE, hE2, hT, ?_⟩
  have hv : FP.Core.val32 (FP.Core.fdiv (FP.Core.l2f a) (FP.Core.l2f b)) = FP.Core.val32 (nF E T) := by
    rw [FP.Core.val32_fdiv, e, e', nF_val hE hE2 hT, ← hr]
    show (if d = 0 then _ else _) = _
    rw [if_neg (by omega)]
    rfl
  exact FP.Core.val32_inj (by rw [hv]; exact nF_ne hE hE2 hT) hv

