/-! a cost is not below 0; what else of a row follows -/
theorem abs_b {x : Int32} {n : Nat} (h : ab x n) (hn : n ≤ 2000000000) : 0 ≤ (aAbs x).toInt ∧ (aAbs x).toInt ≤ n := by
  have h1 := h.1
  have h2 := h.2
  unfold aAbs
  by_cases q : 0 ≤ x
  · rw [if_pos q]
    rw [i_le, i_0] at q
    exact ⟨q, h2⟩
  · rw [if_neg q]
    rw [i_le, i_0] at q
    have e := i_sub (a := 0) (b := x) (by rw [i_0]; omega) (by rw [i_0]; omega)
    rw [i_0] at e
    rw [e]
    omega
theorem fSum_b {E : Nat → Int32} : ∀ k, k ≤ 201 → (∀ j, j < k → ab (E j) 10000) → 0 ≤ (fSum E k).toInt ∧ (fSum E k).toInt ≤ 10000 * k
  | 0, _, _ => ⟨by show (0 : Int) ≤ 0; omega, by show (0 : Int) ≤ 10000 * ((0 : Nat) : Int); omega⟩
  | k + 1, hk, h => by
    obtain ⟨h1, h2⟩ := fSum_b k (by omega) (fun j hj => h j (by omega))
    obtain ⟨a1, a2⟩ := abs_b (h k (by omega)) (by decide)
    rw [fSum, i_add (by omega) (by omega)]
    omega
theorem max_b {x y : Int32} {n : Int} (h1 : 0 ≤ x.toInt ∧ x.toInt ≤ n) (h2 : 0 ≤ y.toInt ∧ y.toInt ≤ n) : 0 ≤ (iMax x y).toInt ∧ (iMax x y).toInt ≤ n := by
  unfold iMax
  split
  · exact h2
  · exact h1
theorem fOver_b {E : Nat → Int32} : ∀ k, (∀ j, j ≤ k → ab (E j) 10000) → 0 ≤ (fOver E k).toInt ∧ (fOver E k).toInt ≤ 10000
  | 0, _ => ⟨by show (0 : Int) ≤ 0; omega, by show (0 : Int) ≤ 10000; omega⟩
  | k + 1, h => by
    have ih := fOver_b k (fun j hj => h j (by omega))
    rw [fOver]
    split
    · exact ih
    · exact max_b ih (abs_b (h (k + 1) (Nat.le_refl _)) (by decide))
theorem fAct_b {A : Nat → Int32} : ∀ k, k ≤ 200 → (∀ j, j < k → ab (A j) 1000) → 0 ≤ (fAct A k).toInt ∧ (fAct A k).toInt ≤ 2000 * k
  | 0, _, _ => ⟨by show (0 : Int) ≤ 0; omega, by show (0 : Int) ≤ 2000 * ((0 : Nat) : Int); omega⟩
  | k + 1, hk, h => by
    obtain ⟨h1, h2⟩ := fAct_b k (by omega) (fun j hj => h j (by omega))
    have hp : ab (fPv A k) 1000 := by
      cases k with
      | zero => exact ab_0 _
      | succ k => exact h k (by omega)
    have hk1 := h k (by omega)
    have p1 := hp.1
    have p2 := hp.2
    have q1 := hk1.1
    have q2 := hk1.2
    have e : (A k - fPv A k).toInt = (A k).toInt - (fPv A k).toInt := i_sub (by omega) (by omega)
    obtain ⟨a1, a2⟩ := abs_b (x := A k - fPv A k) (n := 2000) ⟨by rw [e]; omega, by rw [e]; omega⟩ (by decide)
    rw [fAct, i_add (by omega) (by omega)]
    omega
theorem fSet_b {E : Nat → Int32} {b : Int32} {N : Nat} (h : N ≤ 200) : 0 ≤ (if fSet E b N = -1 then (1000 : Int32) else fSet E b N).toInt ∧ (if fSet E b N = -1 then (1000 : Int32) else fSet E b N).toInt ≤ 1000 := by
  by_cases q : fSet E b N = -1
  · rw [if_pos q]; decide
  · rw [if_neg q]
    have hl := fT_le E b (N + 1)
    unfold fSet at q ⊢
    by_cases c : fT E b (N + 1) = N + 1
    · rw [if_pos c] at q; exact absurd rfl q
    · rw [if_neg c, nI_toInt (by omega)]
      omega
theorem term_b {w v : Int32} {n : Nat} (h1 : 0 ≤ w.toInt ∧ w.toInt ≤ 99) (h2 : 0 ≤ v.toInt ∧ v.toInt ≤ n) (hn : n ≤ 3000000) : 0 ≤ (w.toInt64 * v.toInt64).toInt ∧ (w.toInt64 * v.toInt64).toInt ≤ 300000000 := by
  obtain ⟨p1, p2⟩ := mul_b (a := w.toInt) (b := v.toInt) (m := 99) (n := 3000000) (by omega) (by omega) (by omega) (by omega)
  have p3 : 0 ≤ w.toInt * v.toInt := Int.mul_nonneg h1.1 h2.1
  rw [FP.Core.int64_mul (by rw [z_i, z_i]; omega) (by rw [z_i, z_i]; omega), z_i, z_i]
  omega
theorem tCost_nn {T : Nat → Nat → Int32} {N : Nat} {W : Nat → Int32} {b : Int32} (hN : N ≤ 200) (hW : ∀ k, k < 5 → 0 ≤ (W k).toInt ∧ (W k).toInt ≤ 99) (h0 : ∀ t, t ≤ N → ab (T 0 t) 10000) (h3 : ∀ t, t < N → ab (T 3 t) 1000) (h5 : ∀ t, t < N → T 5 t = 0 ∨ T 5 t = 1) : 0 ≤ tCost T N W b := by
  obtain ⟨a1, a2⟩ := term_b (n := 3000000) (hW 0 (by decide)) (v := fSum (T 0) (N + 1)) (by have := fSum_b (E := T 0) (N + 1) (by omega) (fun j hj => h0 j (by omega)); omega) (by decide)
  obtain ⟨b1, b2⟩ := term_b (n := 3000000) (hW 1 (by decide)) (v := fOver (T 0) N) (by have := fOver_b (E := T 0) N h0; omega) (by decide)
  obtain ⟨n, hn, en⟩ := eS_n2 h5 N (Nat.le_refl _)
  obtain ⟨c1, c2⟩ := term_b (n := 3000000) (hW 2 (by decide)) (v := fSat (T 5) N) (by rw [en, nI_toInt (by omega)]; omega) (by decide)
  obtain ⟨d1, d2⟩ := term_b (n := 3000000) (hW 3 (by decide)) (v := fAct (T 3) N) (by have := fAct_b (A := T 3) N hN h3; omega) (by decide)
  obtain ⟨e1, e2⟩ := term_b (n := 3000000) (hW 4 (by decide)) (v := if fSet (T 0) b N = -1 then (1000 : Int32) else fSet (T 0) b N) (by have := fSet_b (E := T 0) (b := b) hN; omega) (by decide)
  unfold tCost
  generalize (W 0).toInt64 * (fSum (T 0) (N + 1)).toInt64 = x0 at *
  generalize (W 1).toInt64 * (fOver (T 0) N).toInt64 = x1 at *
  generalize (W 2).toInt64 * (fSat (T 5) N).toInt64 = x2 at *
  generalize (W 3).toInt64 * (fAct (T 3) N).toInt64 = x3 at *
  generalize (W 4).toInt64 * (if fSet (T 0) b N = -1 then (1000 : Int32) else fSet (T 0) b N).toInt64 = x4 at *
  have s1 : (x0 + x1).toInt = x0.toInt + x1.toInt := FP.Core.int64_add (by omega) (by omega)
  have s2 : (x0 + x1 + x2).toInt = x0.toInt + x1.toInt + x2.toInt := by rw [FP.Core.int64_add (by omega) (by omega), s1]
  have s3 : (x0 + x1 + x2 + x3).toInt = x0.toInt + x1.toInt + x2.toInt + x3.toInt := by rw [FP.Core.int64_add (by omega) (by omega), s2]
  have s4 : (x0 + x1 + x2 + x3 + x4).toInt = x0.toInt + x1.toInt + x2.toInt + x3.toInt + x4.toInt := by rw [FP.Core.int64_add (by omega) (by omega), s3]
  rw [Int64.le_iff_toInt_le, s4]
  show (0 : Int) ≤ _
  omega
theorem pSat_01 (S : Nat → Int32) (tab : Int32 → Int32) (s ch i out : Int32) : pSat S tab s ch i out = 0 ∨ pSat S tab s ch i out = 1 := by
  unfold pSat
  split
  · exact Or.inl rfl
  · exact Or.inr rfl
/-- what a trace keeps -/
def trOK (T : Nat → Nat → Int32) (N : Nat) : Prop := (∀ t, t ≤ N → ab (T 0 t) 10000) ∧ ∀ t, t < N → ab (T 1 t) 10000 ∧ ab (T 3 t) 1000 ∧ ab (T 4 t) 1000000 ∧ (T 5 t = 0 ∨ T 5 t = 1)
theorem aT_ok {S A : Nat → Int32} {N : Nat} (hA : aOK A) (hS : seB S) (ag : agr S A) (hN : N ≤ 200) : trOK (aT S A) N := by
  have h := ySt_eq hA hS ag hN
  refine ⟨fun t ht => (h t ht).2.1, fun t ht => ⟨(sn_eq (seB_F hS) (h t (by omega)).2).2.1, (h (t + 1) ht).2.2.2.1, (h (t + 1) ht).2.2.2.2.1, pSat_01 _ _ _ _ _ _⟩⟩
theorem qA_nn {A : Nat → Int32} {N m : Nat} (hA : aOK A) (hN : N ≤ 200) (hm : m < gT A) : 0 ≤ qA A N m := by
  obtain ⟨h1, h2, h3⟩ := j_lt hA.2.2.1 hm
  have g0 := gVal_b hA.2.2.2.1 hA.2.2.1 (g := 0) (by decide) h1
  have g1 := gVal_b hA.2.2.2.1 hA.2.2.1 (g := 1) (by decide) h2
  have g2 := gVal_b hA.2.2.2.1 hA.2.2.1 (g := 2) (by decide) h3
  obtain ⟨k0, k1⟩ := aT_ok hA (seB_gain hA.1 g0 g1 g2) agr_gain hN
  unfold qA aCost gA
  exact tCost_nn hN (fun k hk => hA.2.1 k hk) k0 (fun t ht => (k1 t ht).2.1) (fun t ht => (k1 t ht).2.2.2)
theorem rOK_of {A : Nat → Int32} (hA : aOK A) : rOK A (A 13).toNatClampNeg := by
  obtain ⟨hs, -, -, -, hp, hsr, -, hc, hsg, -⟩ := hA
  have g13 := iw_n2 (a := 1) (b := 200) (hs 13 (by decide)) rfl rfl
  have g5 := iw_n2 (a := 1) (b := 100) (hs 5 (by decide)) rfl rfl
  have g6 := iw_n2 (a := 0) (b := 5) (hs 6 (by decide)) rfl rfl
  have cl : ∀ x : Int32, x.toNatClampNeg = x.toInt.toNat := fun _ => rfl
  refine ⟨?_, by rw [cl]; omega, by rw [cl]; omega, hp, hsr, ⟨hc, fun i hi q => ?_⟩, fun q => ?_, ?_, ?_⟩
  · apply Int32.toInt_inj.mp
    rw [nI_toInt (by rw [cl]; omega), cl]
    omega
  · have := (hsg i hi).2.1.1
    rw [q] at this
    exact absurd this (by decide)
  · rw [q, i_0] at g5
    omega
  · unfold yD
    apply Int32.toInt_inj.mp
    rw [nI_toInt (by rw [cl]; omega), cl]
    omega
  · unfold yD
    rw [cl]
    omega
