/-! traces and costs -/
theorem tCost_congr {T T' : Nat → Nat → Int32} {N : Nat} {W : Nat → Int32} {b : Int32} (h0 : ∀ t, t ≤ N → T 0 t = T' 0 t) (h3 : ∀ t, t < N → T 3 t = T' 3 t) (h5 : ∀ t, t < N → T 5 t = T' 5 t) : tCost T N W b = tCost T' N W b := by
  unfold tCost
  rw [fSum_congr (N + 1) (fun j hj => h0 j (by omega)), fOver_congr N h0, fSat_congr N h5, fAct_congr N h3, fSet_congr h0]
/-- S: settings as in A, but for its first four -/
def agr (S A : Nat → Int32) : Prop := ∀ k, 4 ≤ k → S k = A k
theorem agr_tab {S A : Nat → Int32} (h : agr S A) : rTab S = rTab A := by
  funext x
  unfold rTab
  have eX : rX S = rX A := funext fun i => h _ (by omega)
  have eY : rY S = rY A := funext fun i => h _ (by omega)
  have en : nPt S = nPt A := by unfold nPt; rw [h 29 (by decide)]
  rw [eX, eY, en]
theorem agr_cur {S A : Nat → Int32} (h : agr S A) : rCur S = rCur A := by
  funext x
  unfold rCur
  have e1 : rK S = rK A := funext fun i => h _ (by omega)
  have e2 : rL S = rL A := funext fun i => h _ (by omega)
  have e3 : rC S = rC A := funext fun i => h _ (by omega)
  have en : nSg S = nSg A := by unfold nSg; rw [h 40 (by decide)]
  rw [e1, e2, e3, en]
theorem agr_pus {S A : Nat → Int32} (h : agr S A) : rPus S = rPus A := by
  funext x
  unfold rPus
  have e1 : rF S = rF A := funext fun i => h _ (by omega)
  have e2 : rV S = rV A := funext fun i => h _ (by omega)
  have e3 : rW S = rW A := funext fun i => h _ (by omega)
  have en : nPs S = nPs A := by unfold nPs; rw [h 65 (by decide)]
  rw [e1, e2, e3, en]
theorem ySt_eq {S A : Nat → Int32} {N : Nat} (hA : aOK A) (hS : seB S) (ag : agr S A) (hN : N ≤ 200) : ∀ t, t ≤ N → ySt S t = aSt S A t ∧ bd (aSt S A t) := by
  obtain ⟨-, -, -, -, hp, hs, hpt, hc, hsg, hps⟩ := hA
  exact run_eq (seB_F hS) (fun x => by rw [agr_tab ag]; exact rTab_eq hpt hs x) (fun t _ => by rw [agr_cur ag]; exact rCur_eq hsg _) (fun t ht => by rw [agr_pus ag]; exact rPus_eq hps (by omega))
theorem rTr_eq {S A : Nat → Int32} {N : Nat} (hA : aOK A) (hS : seB S) (ag : agr S A) (hN : N ≤ 200) : (∀ t, t ≤ N → rTr S 0 t = aT S A 0 t) ∧ ∀ t, t < N → rTr S 1 t = aT S A 1 t ∧ rTr S 2 t = aT S A 2 t ∧ rTr S 3 t = aT S A 3 t ∧ rTr S 4 t = aT S A 4 t ∧ rTr S 5 t = aT S A 5 t := by
  have h := ySt_eq hA hS ag hN
  obtain ⟨-, -, -, -, hp, hs, hpt, hc, hsg, hps⟩ := hA
  have ht : ∀ x, rTab S x = aTab A x := fun x => by rw [agr_tab ag]; exact rTab_eq hpt hs x
  refine ⟨fun t q => ?_, fun t q => ⟨?_, ?_, ?_, ?_, ?_⟩⟩
  · show (ySt S t).1 = (aSt S A t).1
    rw [(h t q).1]
  · show ySn S t (ySt S t) = xSn S t (aSt S A t)
    rw [(h t (by omega)).1]
    exact (sn_eq (seB_F hS) (h t (by omega)).2).1
  · show (ySt S (t + 1)).2.2.2.2.1 = (aSt S A (t + 1)).2.2.2.2.1
    rw [(h (t + 1) q).1]
  · show (ySt S (t + 1)).2.2.1 = (aSt S A (t + 1)).2.2.1
    rw [(h (t + 1) q).1]
  · show (ySt S (t + 1)).2.2.2.1 = (aSt S A (t + 1)).2.2.2.1
    rw [(h (t + 1) q).1]
  · show yW S t (ySt S t) = aSat S A t
    rw [(h t (by omega)).1]
    exact sat_eq (seB_F hS) ht (h t (by omega)).2
theorem rCost_eq {S A : Nat → Int32} {N : Nat} {W : Nat → Int32} {b : Int32} (hA : aOK A) (hS : seB S) (ag : agr S A) (hN : N ≤ 200) : tCost (rTr S) N W b = tCost (aT S A) N W b := by
  obtain ⟨h0, h1⟩ := rTr_eq hA hS ag hN
  exact tCost_congr h0 (fun t q => (h1 t q).2.2.1) (fun t q => (h1 t q).2.2.2.2)
theorem gVal_b {A : Nat → Int32} (h : gdB A) (og : gOK A) {g x : Nat} (hg : g < 3) (hx : x < cG A g) : 0 ≤ (gVal A g x).toInt ∧ (gVal A g x).toInt ≤ 999 := by
  obtain ⟨⟨f1, f2⟩, ⟨s1, s2⟩, hm⟩ := h g hg
  obtain ⟨-, c1, c6⟩ := og g hg
  rw [show (0 : Int32).toInt = 0 from rfl] at f1
  rw [show (999 : Int32).toInt = 999 from rfl] at f2
  rw [show (1 : Int32).toInt = 1 from rfl] at s1
  rw [show (200 : Int32).toInt = 200 from rfl] at s2
  have ex : (nI x).toInt = x := nI_toInt (by omega)
  obtain ⟨p1, p2⟩ := mul_b (a := (A (20 + 3 * g + 1)).toInt) (b := (x : Int)) (m := 200) (n := 6) (by omega) (by omega) (by omega) (by omega)
  have e1 : (A (20 + 3 * g + 1) * nI x).toInt = (A (20 + 3 * g + 1)).toInt * x := by rw [i_mul (by rw [ex]; omega) (by rw [ex]; omega), ex]
  have hle : (A (20 + 3 * g + 1)).toInt * (x : Int) ≤ (A (20 + 3 * g + 1)).toInt * ((cG A g : Int) - 1) := Int.mul_le_mul_of_nonneg_left (by omega) (by omega)
  have h0 : 0 ≤ (A (20 + 3 * g + 1)).toInt * (x : Int) := Int.mul_nonneg (by omega) (by omega)
  have e2 : (gVal A g x).toInt = (A (20 + 3 * g)).toInt + (A (20 + 3 * g + 1)).toInt * x := by
    unfold gVal
    rw [i_add (by rw [e1]; omega) (by rw [e1]; omega), e1]
  rw [e2]
  omega
theorem seB_gain {A : Nat → Int32} (h : seB A) {p i d : Int32} (hp : 0 ≤ p.toInt ∧ p.toInt ≤ 999) (hi : 0 ≤ i.toInt ∧ i.toInt ≤ 999) (hd : 0 ≤ d.toInt ∧ d.toInt ≤ 999) : seB (aGain A p i d) := by
  intro k hk
  unfold aGain
  by_cases h2 : k = 2
  · subst h2; rw [show upd (upd (upd A 0 p) 1 i) 2 d 2 = d from if_pos rfl]; exact hd
  · rw [upd_ne h2]
    by_cases h1 : k = 1
    · subst h1; rw [show upd (upd A 0 p) 1 i 1 = i from if_pos rfl]; exact hi
    · rw [upd_ne h1]
      by_cases h0 : k = 0
      · subst h0; rw [show upd A 0 p 0 = p from if_pos rfl]; exact hp
      · rw [upd_ne h0]; exact h k hk
theorem agr_gain {A : Nat → Int32} {p i d : Int32} : agr (aGain A p i d) A := fun k hk => by
  unfold aGain
  rw [upd_ne (by omega), upd_ne (by omega), upd_ne (by omega)]
theorem qR_eq {A : Nat → Int32} {N m : Nat} (hA : aOK A) (hN : N ≤ 200) (hm : m < gT A) : qR A N m = qA A N m := by
  obtain ⟨h1, h2, h3⟩ := j_lt hA.2.2.1 hm
  have g0 := gVal_b hA.2.2.2.1 hA.2.2.1 (g := 0) (by decide) h1
  have g1 := gVal_b hA.2.2.2.1 hA.2.2.1 (g := 1) (by decide) h2
  have g2 := gVal_b hA.2.2.2.1 hA.2.2.1 (g := 2) (by decide) h3
  have e := rCost_eq (N := N) (W := fun k => A (15 + k)) (b := A 14) hA (seB_gain hA.1 g0 g1 g2) agr_gain hN
  unfold qR rCW qA aCost gA
  exact e
theorem agr_upd {A : Nat → Int32} {s : Nat} {v : Int32} (hs : s < 4) : agr (upd A s v) A := fun k hk => upd_ne (by omega)
theorem rLw_eq {A : Nat → Int32} {N s b : Nat} (hA : aOK A) (hN : N ≤ 200) (hs : s < 4) (hb : sLst s ≤ b) (hb2 : (b : Int) ≤ (A s).toInt) : rLw A N s b = aLow A N s b := by
  have hS : seB (upd A s (nI b)) := fun k hk => by
    have h := hA.1 k hk
    by_cases q : k = s
    · subst q
      rw [show upd A k (nI b) k = nI b from if_pos rfl]
      have hm : (A k).toInt < 70000 := by
        have := h.2
        have hk4 : k = 0 ∨ k = 1 ∨ k = 2 ∨ k = 3 := by omega
        rcases hk4 with e | e | e | e <;> subst e
        · exact Int.lt_of_le_of_lt this (by decide)
        · exact Int.lt_of_le_of_lt this (by decide)
        · exact Int.lt_of_le_of_lt this (by decide)
        · exact Int.lt_of_le_of_lt this (by decide)
      have eb : (nI b).toInt = b := nI_toInt (by omega)
      refine ⟨?_, by rw [eb]; exact Int.le_trans hb2 h.2⟩
      rw [eb, mSv1 hs, nI_toInt (by unfold sLst; split <;> decide)]
      exact Int.ofNat_le.mpr hb
    · rw [upd_ne q]; exact h
  have e := rCost_eq (W := fun k => A (15 + k)) (b := A 14) hA hS (agr_upd hs) hN
  unfold rLw aLow aCost
  exact e
