/-! what a row of the reference keeps; table, curvature, pushes are the class's -/
def iw (lo hi x : Int32) : Prop := lo.toInt ≤ x.toInt ∧ x.toInt ≤ hi.toInt
theorem iw_of {x lo hi : Int32} (h : ¬ vX10_isWithin x lo hi = 0) : iw lo hi x := by
  unfold vX10_isWithin at h
  by_cases h1 : x < lo
  · rw [if_pos h1] at h; exact absurd rfl h
  · rw [if_neg h1] at h
    by_cases h2 : hi < x
    · rw [if_pos h2] at h; exact absurd rfl h
    · exact ⟨Int32.le_iff_toInt_le.mp (Int32.not_lt.mp h1), Int32.le_iff_toInt_le.mp (Int32.not_lt.mp h2)⟩
theorem lim_eq : vX11_limited = vX10_limited := rfl
def ptB (A : Nat → Int32) : Prop := ∀ i, i < nPt A → iw (-10000) 10000 (rX A i) ∧ iw (-1000) 1000 (rY A i)
def sgB (A : Nat → Int32) : Prop := ∀ i, i < nSg A → (rK A i = 0 ∨ rK A i = 1 ∨ rK A i = 2) ∧ iw 1 99 (rL A i) ∧ iw (-50) 50 (rC A i)
def psB (A : Nat → Int32) : Prop := ∀ i, i < nPs A → iw 0 199 (rF A i) ∧ iw (-500) 500 (rV A i) ∧ iw 1 99 (rW A i)
def seB (A : Nat → Int32) : Prop := ∀ k, k < 15 → iw ((mSv 1).getD k 0) ((mSv 2).getD k 0) (A k)
def weB (A : Nat → Int32) : Prop := ∀ k, k < 5 → iw 0 99 (A (15 + k))
def gdB (A : Nat → Int32) : Prop := ∀ g, g < 3 → iw 0 999 (A (20 + 3 * g)) ∧ iw 1 200 (A (20 + 3 * g + 1)) ∧ (A (20 + 3 * g)).toInt + (A (20 + 3 * g + 1)).toInt * ((cG A g : Int) - 1) ≤ 999
/-- what every row of settings keeps -/
def aOK (A : Nat → Int32) : Prop := seB A ∧ weB A ∧ gOK A ∧ gdB A ∧ ptOK A ∧ srt A ∧ ptB A ∧ cntOK A ∧ sgB A ∧ psB A
theorem cur_eq {K L C : Nat → Int32} {n : Nat} (h : ∀ i, i < n → (K i = 0 ∨ K i = 1 ∨ K i = 2) ∧ iw 1 99 (L i)) : ∀ j i x, i + j = n → fCuM K L C j i x = fCur K L C j i x := by
  intro j
  induction j with
  | zero => intro i x _; rfl
  | succ j ih =>
    intro i x hi
    rw [fCuM, fCur]
    by_cases hl : L i ≤ x
    · rw [if_pos hl, if_pos hl]
      exact ih (i + 1) _ (by omega)
    · rw [if_neg hl, if_neg hl]
      obtain ⟨hk, hL⟩ := h i (by omega)
      have hp : ¬ L i ≤ 0 := fun q => by
        have := Int32.le_iff_toInt_le.mp q
        have := hL.1
        rw [show (1 : Int32).toInt = 1 from rfl] at this
        simp at *
        omega
      unfold fCin
      rcases hk with e | e | e <;> rw [e] <;> simp [hp]
theorem rCur_eq {A : Nat → Int32} (h : sgB A) (x : Int32) : rCur A x = aCur A x := cur_eq (fun i hi => ⟨(h i hi).1, (h i hi).2.1⟩) (nSg A) 0 x (by omega)
theorem i_add {a b : Int32} (h1 : -2147483648 ≤ a.toInt + b.toInt) (h2 : a.toInt + b.toInt < 2147483648) : (a + b).toInt = a.toInt + b.toInt := by rw [Int32.toInt_add]; exact Int.bmod_eq_of_le (by omega) (by omega)
theorem i_sub {a b : Int32} (h1 : -2147483648 ≤ a.toInt - b.toInt) (h2 : a.toInt - b.toInt < 2147483648) : (a - b).toInt = a.toInt - b.toInt := by rw [Int32.toInt_sub]; exact Int.bmod_eq_of_le (by omega) (by omega)
theorem i_mul {a b : Int32} (h1 : -2147483648 ≤ a.toInt * b.toInt) (h2 : a.toInt * b.toInt < 2147483648) : (a * b).toInt = a.toInt * b.toInt := by rw [Int32.toInt_mul]; exact Int.bmod_eq_of_le (by omega) (by omega)
theorem i_lt {a b : Int32} : a < b ↔ a.toInt < b.toInt := Int32.lt_iff_toInt_lt
theorem i_le {a b : Int32} : a ≤ b ↔ a.toInt ≤ b.toInt := Int32.le_iff_toInt_le
theorem i_0 : (0 : Int32).toInt = 0 := rfl
theorem i_1 : (1 : Int32).toInt = 1 := rfl
theorem pus_eq {F V L : Nat → Int32} {n t : Nat} (ht : t < 200) (h : ∀ i, i < n → iw 0 199 (F i) ∧ iw 1 99 (L i)) : ∀ k, k ≤ n → fPuM F V L (nI t) k = fPus F V L (nI t) k
  | 0, _ => rfl
  | k + 1, hk => by
    obtain ⟨⟨f1, f2⟩, ⟨l1, l2⟩⟩ := h k (by omega)
    rw [show (0 : Int32).toInt = 0 from rfl] at f1
    rw [show (199 : Int32).toInt = 199 from rfl] at f2
    rw [show (1 : Int32).toInt = 1 from rfl] at l1
    rw [show (99 : Int32).toInt = 99 from rfl] at l2
    have et : (nI t).toInt = t := nI_toInt (by omega)
    have e1 : (nI t - F k).toInt = t - (F k).toInt := by rw [i_sub (by rw [et]; omega) (by rw [et]; omega), et]
    have e2 : (L k - 1).toInt = (L k).toInt - 1 := i_sub (by rw [i_1]; omega) (by rw [i_1]; omega)
    have e3 : (F k + L k).toInt = (F k).toInt + (L k).toInt := i_add (by omega) (by omega)
    rw [fPuM, fPus, pus_eq ht h k (by omega), Int32.add_zero]
    unfold vX10_isWithin
    simp only [i_lt, i_le, e1, e2, e3, et, i_0]
    by_cases q1 : (t : Int) < (F k).toInt
    · have r1 : (t : Int) - (F k).toInt < 0 := by omega
      rw [if_pos q1, if_pos r1, if_pos rfl]
    · have r1 : ¬ ((t : Int) - (F k).toInt < 0) := by omega
      rw [if_neg q1, if_neg r1]
      by_cases q2 : (F k).toInt + (L k).toInt ≤ (t : Int)
      · have r2 : (L k).toInt - 1 < (t : Int) - (F k).toInt := by omega
        rw [if_pos q2, if_pos r2, if_pos rfl]
      · have r2 : ¬ ((L k).toInt - 1 < (t : Int) - (F k).toInt) := by omega
        rw [if_neg q2, if_neg r2, if_neg (by decide)]
theorem rPus_eq {A : Nat → Int32} (h : psB A) {t : Nat} (ht : t < 200) : rPus A (nI t) = aPus A (nI t) := pus_eq (n := nPs A) ht (fun i hi => ⟨(h i hi).1, (h i hi).2.2⟩) (nPs A) (Nat.le_refl _)
theorem bet_end {X Y : Nat → Int32} {i : Nat} (h1 : (X i).toInt < (X (i + 1)).toInt) (b1 : -10000 ≤ (X i).toInt) (b2 : (X (i + 1)).toInt ≤ 10000) (y1 : -1000 ≤ (Y i).toInt) (y2 : (Y i).toInt ≤ 1000) (y3 : -1000 ≤ (Y (i + 1)).toInt) (y4 : (Y (i + 1)).toInt ≤ 1000) : fBw X Y i (X (i + 1)) = Y (i + 1) := by
  have e1 : (X (i + 1) - X i).toInt = (X (i + 1)).toInt - (X i).toInt := i_sub (by omega) (by omega)
  have e2 : (Y (i + 1) - Y i).toInt = (Y (i + 1)).toInt - (Y i).toInt := i_sub (by omega) (by omega)
  generalize hd : (X (i + 1)).toInt - (X i).toInt = d at e1
  generalize hc : (Y (i + 1)).toInt - (Y i).toInt = c at e2
  have hb : -40000000 ≤ c * d ∧ c * d ≤ 40000000 := by
    have h3 : c.natAbs * d.natAbs ≤ 2000 * 20000 := Nat.mul_le_mul (by omega) (by omega)
    rw [← Int.natAbs_mul] at h3
    omega
  have e3 : ((Y (i + 1) - Y i) * (X (i + 1) - X i)).toInt = c * d := by rw [i_mul (by rw [e1, e2]; omega) (by rw [e1, e2]; omega), e1, e2]
  have e4 : ((Y (i + 1) - Y i) * (X (i + 1) - X i) / (X (i + 1) - X i)).toInt = c := by
    rw [Int32.toInt_div, e3, e1, Int.mul_tdiv_cancel _ (by omega)]
    exact Int.bmod_eq_of_le (by omega) (by omega)
  unfold fBw
  apply Int32.toInt_inj.mp
  rw [i_add (by rw [e4]; omega) (by rw [e4]; omega), e4]
  omega
theorem bw_start {X Y : Nat → Int32} {i : Nat} : fBw X Y i (X i) = Y i := by
  unfold fBw
  rw [Int32.sub_self, Int32.mul_zero, Int32.zero_div, Int32.add_zero]
theorem bet_bw {X Y : Nat → Int32} {i : Nat} {x : Int32} (h1 : (X i).toInt < (X (i + 1)).toInt) (b1 : -10000 ≤ (X i).toInt) (b2 : (X (i + 1)).toInt ≤ 10000) : fBet X Y i x = fBw X Y i x := by
  have e1 : (X (i + 1) - X i).toInt = (X (i + 1)).toInt - (X i).toInt := i_sub (by omega) (by omega)
  unfold fBet fBw
  rw [if_neg (by rw [i_le, e1, i_0]; omega)]
def xyB (X Y : Nat → Int32) (n : Nat) : Prop := (∀ i, i + 1 < n → (X i).toInt < (X (i + 1)).toInt) ∧ ∀ i, i < n → (-10000 ≤ (X i).toInt ∧ (X i).toInt ≤ 10000) ∧ -1000 ≤ (Y i).toInt ∧ (Y i).toInt ≤ 1000
theorem xy_mono {X Y : Nat → Int32} {n : Nat} (h : xyB X Y n) : ∀ k i, i + k < n → (X i).toInt + k ≤ (X (i + k)).toInt
  | 0, i, _ => by simp
  | k + 1, i, hk => by
    have h1 := xy_mono h k i (by omega)
    have h2 := h.1 (i + k) (by omega)
    rw [show i + (k + 1) = i + k + 1 by omega]
    omega
theorem tabL_eq {X Y : Nat → Int32} {n : Nat} {x : Int32} (h : xyB X Y n) (hx : x.toInt < (X (n - 1)).toInt) : ∀ j i, i + j + 2 = n → fTabL X Y x j i = fRawL X Y n x (j + 1) i := by
  intro j
  induction j with
  | zero =>
    intro i hi
    have hn : n - 1 = i + 1 := by omega
    rw [hn] at hx
    rw [fTabL, fRawL, if_neg (by rw [i_lt]; omega)]
    exact (bet_bw (h.1 i (by omega)) (h.2 i (by omega)).1.1 (h.2 (i + 1) (by omega)).1.2).symm
  | succ j ih =>
    intro i hi
    obtain ⟨⟨b1, b2⟩, y1, y2⟩ := h.2 i (by omega)
    obtain ⟨⟨b3, b4⟩, y3, y4⟩ := h.2 (i + 1) (by omega)
    have s1 := h.1 i (by omega)
    rw [fTabL, fRawL]
    by_cases q : x < X (i + 1)
    · rw [if_pos q, if_neg (by rw [i_lt] at q ⊢; omega)]
      exact (bet_bw s1 b1 b4).symm
    · rw [if_neg q]
      by_cases q2 : X (i + 1) < x
      · rw [if_pos q2]
        exact ih (i + 1) (by omega)
      · rw [if_neg q2]
        have ex : x = X (i + 1) := Int32.toInt_inj.mp (by rw [i_lt] at q q2; omega)
        rw [bet_bw s1 b1 b4, ex, bet_end s1 b1 b4 y1 y2 y3 y4]
        have s2 := h.1 (i + 1) (by omega)
        cases j with
        | zero => rw [fTabL]; exact bw_start
        | succ j => rw [fTabL, if_pos (by rw [i_lt]; exact s2)]; exact bw_start
theorem rawL_end {X Y : Nat → Int32} {n : Nat} {x : Int32} (h : xyB X Y n) (hx : (X (n - 1)).toInt ≤ x.toInt) : ∀ j i, i + j + 1 = n → fRawL X Y n x j i = Y (n - 1) := by
  intro j
  induction j with
  | zero => intro i _; rfl
  | succ j ih =>
    intro i hi
    rw [fRawL]
    by_cases q : X (i + 1) < x
    · rw [if_pos q]; exact ih (i + 1) (by omega)
    · rw [if_neg q]
      have hm := xy_mono h j (i + 1) (by omega)
      rw [show i + 1 + j = n - 1 by omega] at hm
      rw [i_lt] at q
      have j0 : j = 0 := by omega
      subst j0
      obtain ⟨⟨b1, b2⟩, y1, y2⟩ := h.2 i (by omega)
      obtain ⟨⟨b3, b4⟩, y3, y4⟩ := h.2 (i + 1) (by omega)
      have s1 := h.1 i (by omega)
      have hn : n - 1 = i + 1 := by omega
      rw [hn] at hx ⊢
      have ex : x = X (i + 1) := Int32.toInt_inj.mp (by omega)
      rw [bet_bw s1 b1 b4, ex, bet_end s1 b1 b4 y1 y2 y3 y4]
theorem tab_eq {X Y : Nat → Int32} {n : Nat} (h : xyB X Y n) (x : Int32) : fTab X Y n x = fRaw X Y n x := by
  unfold fTab fRaw
  by_cases h0 : n = 0
  · rw [if_pos h0, if_pos h0]
  · rw [if_neg h0, if_neg h0]
    by_cases h1 : X 0 < x
    · rw [if_pos h1, if_pos h1]
      by_cases h2 : x < X (n - 1)
      · rw [if_pos h2]
        have hn : 2 ≤ n := Classical.byContradiction fun q => by
          have : n - 1 = 0 := by omega
          rw [this] at h2
          rw [i_lt] at h1 h2
          omega
        rw [tabL_eq h (i_lt.mp h2) (n - 2) 0 (by omega), show n - 2 + 1 = n - 1 by omega]
      · rw [if_neg h2]
        exact (rawL_end h (by rw [i_lt] at h2; omega) (n - 1) 0 (by omega)).symm
    · rw [if_neg h1, if_neg h1]
theorem rTab_eq {A : Nat → Int32} (h : ptB A) (hs : srt A) (x : Int32) : rTab A x = aTab A x := tab_eq ⟨fun i hi => i_lt.mp (hs i hi), fun i hi => h i hi⟩ x
