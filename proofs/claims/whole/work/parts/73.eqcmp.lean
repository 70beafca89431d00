/-! comparisons; the reason of a step -/
theorem dif_eq (E F : Nat → Int32) : ∀ k, rDif E F k = fDif E F k
  | 0 => rfl
  | k + 1 => by rw [rDif, fDif, am_eq, am_mx, dif_eq E F k]
theorem les_eq (E F : Nat → Int32) : ∀ k, rLes E F k = fLes E F k
  | 0 => rfl
  | k + 1 => by rw [rLes, fLes, am_eq, am_eq, les_eq E F k, Int32.add_zero]
theorem am_0 {x y : Int32} (hx : ab x 10000) (hy : ab y 10000) : vX11_amount (x - y) ≤ 0 ↔ x = y := by
  have h1 := hx.1
  have h2 := hx.2
  have h3 := hy.1
  have h4 := hy.2
  have e : (x - y).toInt = x.toInt - y.toInt := i_sub (by omega) (by omega)
  rw [am_eq]
  constructor
  · intro h
    apply Int32.toInt_inj.mp
    unfold aAbs at h
    by_cases q : 0 ≤ x - y
    · rw [if_pos q] at h
      rw [i_le, i_0, e] at h q
      omega
    · rw [if_neg q] at h
      have e2 : (0 - (x - y)).toInt = 0 - (x - y).toInt := i_sub (by rw [e, i_0]; omega) (by rw [e, i_0]; omega)
      rw [i_le, e2, i_0, e] at h
      rw [i_le, i_0, e] at q
      omega
  · intro h
    rw [h, Int32.sub_self]
    decide
theorem fFst_m {E F : Nat → Int32} : ∀ j i, (∀ t, i ≤ t → t < i + j → E t = F t) → fFst E F i j = -1
  | 0, _, _ => rfl
  | j + 1, i, h => by
    rw [fFst, if_pos (h i (Nat.le_refl _) (by omega))]
    exact fFst_m j (i + 1) (fun t h1 h2 => h t (by omega) (by omega))
theorem fFst_at {E F : Nat → Int32} {m : Nat} (hm : ¬ E m = F m) : ∀ j i, i ≤ m → m < i + j → (∀ t, i ≤ t → t < m → E t = F t) → fFst E F i j = nI m
  | 0, i, h1, h2, _ => by omega
  | j + 1, i, h1, h2, h => by
    rw [fFst]
    by_cases q : i = m
    · subst q
      rw [if_neg hm]
    · rw [if_pos (h i (Nat.le_refl _) (by omega))]
      exact fFst_at hm j (i + 1) (by omega) (by omega) (fun t h1 h2 => h t (by omega) h2)
theorem rFst_m {E F : Nat → Int32} {n : Nat} (hE : ∀ t, t < n → ab (E t) 10000 ∧ ab (F t) 10000) : ∀ k, k ≤ n → (∀ t, t < k → E t = F t) → rFst E F k = -1
  | 0, _, _ => rfl
  | k + 1, hk, h => by
    have ih := rFst_m hE k (by omega) (fun t ht => h t (by omega))
    rw [rFst, ih, if_neg (by decide), if_pos ((am_0 (hE k (by omega)).1 (hE k (by omega)).2).mpr (h k (by omega)))]
theorem rFst_at {E F : Nat → Int32} {n m : Nat} (hn : n ≤ 70000) (hE : ∀ t, t < n → ab (E t) 10000 ∧ ab (F t) 10000) (hm : ¬ E m = F m) (h : ∀ t, t < m → E t = F t) : ∀ k, k ≤ n → m < k → rFst E F k = nI m
  | 0, _, h2 => by omega
  | k + 1, hk, h2 => by
    rw [rFst]
    by_cases q : k = m
    · subst q
      rw [rFst_m hE k (by omega) h, if_neg (by decide), if_neg (fun c => hm ((am_0 (hE k (by omega)).1 (hE k (by omega)).2).mp c))]
    · rw [rFst_at hn hE hm h k (by omega) (by omega), if_pos (Int32.not_lt.mp (m_0le (by omega)))]
theorem fst_eq {E F : Nat → Int32} {n : Nat} (hn : n ≤ 70000) (hE : ∀ t, t < n → ab (E t) 10000 ∧ ab (F t) 10000) : rFst E F n = fFst E F 0 n := by
  by_cases h : ∀ t, t < n → E t = F t
  · rw [rFst_m hE n (Nat.le_refl _) h, fFst_m n 0 (fun t _ h2 => h t (by omega))]
  · have : ∃ m, m < n ∧ ¬ E m = F m ∧ ∀ t, t < m → E t = F t := by
      have hex : ∃ m, m < n ∧ ¬ E m = F m := Classical.byContradiction fun q => h (fun t ht => Classical.byContradiction fun c => q ⟨t, ht, c⟩)
      obtain ⟨m0, h0, hm0⟩ := hex
      have ind : ∀ k m, m ≤ k → m < n → ¬ E m = F m → ∃ m, m < n ∧ ¬ E m = F m ∧ ∀ t, t < m → E t = F t := by
        intro k
        induction k with
        | zero => intro m hm hmn hd; exact ⟨m, hmn, hd, fun t ht => by omega⟩
        | succ k ih =>
          intro m hm hmn hd
          by_cases c : ∀ t, t < m → E t = F t
          · exact ⟨m, hmn, hd, c⟩
          · obtain ⟨t, ht, hdt⟩ : ∃ t, t < m ∧ ¬ E t = F t := Classical.byContradiction fun q => c (fun t ht => Classical.byContradiction fun c => q ⟨t, ht, c⟩)
            exact ih t (by omega) (by omega) hdt
      exact ind m0 m0 (Nat.le_refl _) h0 hm0
    obtain ⟨m, h1, h2, h3⟩ := this
    rw [rFst_at hn hE h2 h3 n (Nat.le_refl _) h1, fFst_at h2 n 0 (Nat.zero_le _) (by omega) (fun t _ ht => h3 t ht)]
theorem lab_eq {x : Int32} {n : Nat} (h : ab x n) (hn : n ≤ 2000000000) : lAb x.toInt64 = (aAbs x).toInt64 := by
  have h1 := h.1
  have h2 := h.2
  unfold lAb aAbs
  simp only [lg_cmp_ge]
  have z1 : (0 : Int64) ≤ x.toInt64 ↔ 0 ≤ x := z_le (x := 0)
  by_cases q : 0 ≤ x
  · rw [if_pos (z1.mpr q), if_pos q]
  · rw [if_neg (fun c => q (z1.mp c)), if_neg q, z_neg h hn, Int32.zero_sub]
theorem mul64 {a b : Int32} {m n : Nat} (ha : ab a m) (hb : ab b n) (h : m * n ≤ 2000000000) : a.toInt64 * b.toInt64 = (a * b).toInt64 ∧ ab (a * b) (m * n) := by
  obtain ⟨p1, p2⟩ := mul_b ha.1 ha.2 hb.1 hb.2
  have e : (a * b).toInt = a.toInt * b.toInt := i_mul (by omega) (by omega)
  refine ⟨?_, ⟨by rw [e]; exact p1, by rw [e]; exact p2⟩⟩
  apply Int64.toInt_inj.mp
  rw [z_i, e, FP.Core.int64_mul (by rw [z_i, z_i]; omega) (by rw [z_i, z_i]; omega), z_i, z_i]
def vR32 (y4 y6 y8 : Int32) : Int32 := (if y4 = 0 then (if y6 = 0 then (if y8 = 0 then (-1) else (if y4 < y6 then (if y6 < y8 then 2 else 1) else (if y4 < y8 then (if y6 < y8 then 2 else 1) else 0))) else (if y4 < y6 then (if y6 < y8 then 2 else 1) else (if y4 < y8 then (if y6 < y8 then 2 else 1) else 0))) else (if y4 < y6 then (if y6 < y8 then 2 else 1) else (if y4 < y8 then (if y6 < y8 then 2 else 1) else 0)))
theorem vR_eq (x y z : Int32) : vRs x.toInt64 y.toInt64 z.toInt64 = vR32 x y z := by
  have z0 : ∀ x : Int32, x.toInt64 = 0 ↔ x = 0 := fun x => z_inj (y := 0)
  have zl : ∀ x y : Int32, x.toInt64 < y.toInt64 ↔ x < y := fun x y => by rw [Int64.lt_iff_toInt_lt, z_i, z_i, i_lt]
  unfold vRs vR32
  simp only [lg_cmp_eq, lg_cmp_lt, z0, zl]
theorem rea_eq {A R T : Nat → Int32} {s i c : Int32} (g0 : ab (A 0) 999) (g1 : ab (A 1) 999) (g2 : ab (A 2) 999) (hs : ab s 10000) (hi : ab i 1000000) (hc : ab c 20000) : vRs (lAb ((A 0).toInt64 * s.toInt64)) (lAb ((A 1).toInt64 * i.toInt64)) (lAb ((A 2).toInt64 * c.toInt64)) = vR32 (aAbs (A 0 * s)) (aAbs (A 1 * i)) (aAbs (A 2 * c)) := by
  obtain ⟨e1, a1⟩ := mul64 g0 hs (by decide)
  obtain ⟨e2, a2⟩ := mul64 g1 hi (by decide)
  obtain ⟨e3, a3⟩ := mul64 g2 hc (by decide)
  rw [e1, e2, e3, lab_eq a1 (by decide), lab_eq a2 (by decide), lab_eq a3 (by decide)]
  exact vR_eq _ _ _
