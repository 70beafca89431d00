/-! one step of a run -/
def sF (S : Nat → Int32) : Prop := ab (S 0) 999 ∧ ab (S 1) 999 ∧ ab (S 2) 999 ∧ (1 ≤ (S 3).toInt ∧ (S 3).toInt ≤ 1000) ∧ (1 ≤ (S 4).toInt ∧ (S 4).toInt ≤ 1000) ∧ (1 ≤ (S 5).toInt ∧ (S 5).toInt ≤ 100) ∧ (0 ≤ (S 6).toInt ∧ (S 6).toInt ≤ 5) ∧ (0 ≤ (S 8).toInt ∧ (S 8).toInt ≤ 100000) ∧ ab (S 9) 64 ∧ (S 10 = 0 ∨ S 10 = 1 ∨ S 10 = 2) ∧ (0 ≤ (S 11).toInt ∧ (S 11).toInt ≤ 1000) ∧ ab (S 12) 2000
theorem iw_n2 {lo hi x : Int32} {a b : Int} (h : iw lo hi x) (h1 : lo.toInt = a) (h2 : hi.toInt = b) : a ≤ x.toInt ∧ x.toInt ≤ b := ⟨by rw [← h1]; exact h.1, by rw [← h2]; exact h.2⟩
theorem seB_F {S : Nat → Int32} (h : seB S) : sF S := by
  have g0 := iw_n2 (a := 0) (b := 999) (h 0 (by decide)) rfl rfl
  have g1 := iw_n2 (a := 0) (b := 999) (h 1 (by decide)) rfl rfl
  have g2 := iw_n2 (a := 0) (b := 999) (h 2 (by decide)) rfl rfl
  have g3 := iw_n2 (a := 1) (b := 1000) (h 3 (by decide)) rfl rfl
  have g4 := iw_n2 (a := 1) (b := 1000) (h 4 (by decide)) rfl rfl
  have g5 := iw_n2 (a := 1) (b := 100) (h 5 (by decide)) rfl rfl
  have g6 := iw_n2 (a := 0) (b := 5) (h 6 (by decide)) rfl rfl
  have g8 := iw_n2 (a := 0) (b := 100000) (h 8 (by decide)) rfl rfl
  have g9 := iw_n2 (a := 0) (b := 64) (h 9 (by decide)) rfl rfl
  have g10 := iw_n2 (a := 0) (b := 2) (h 10 (by decide)) rfl rfl
  have g11 := iw_n2 (a := 0) (b := 1000) (h 11 (by decide)) rfl rfl
  have g12 := iw_n2 (a := -2000) (b := 2000) (h 12 (by decide)) rfl rfl
  refine ⟨⟨by omega, by omega⟩, ⟨by omega, by omega⟩, ⟨by omega, by omega⟩, g3, g4, g5, g6, g8, ⟨by omega, by omega⟩, ?_, g11, ⟨by omega, by omega⟩⟩
  rcases (show (S 10).toInt = 0 ∨ (S 10).toInt = 1 ∨ (S 10).toInt = 2 by omega) with q | q | q
  · exact Or.inl (Int32.toInt_inj.mp q)
  · exact Or.inr (Or.inl (Int32.toInt_inj.mp q))
  · exact Or.inr (Or.inr (Int32.toInt_inj.mp q))
def bd (σ : xT) : Prop := ab σ.1 10000 ∧ ab σ.2.1 10000 ∧ ab σ.2.2.1 1000 ∧ ab σ.2.2.2.1 1000000 ∧ ab σ.2.2.2.2.1 1000 ∧ ∀ j, ab (σ.2.2.2.2.2 j) 10000
theorem me_eq {S : Nat → Int32} {e : Int32} (f : sF S) (h : ab e 10000) : yMe S e = pMeas S e ∧ ab (pMeas S e) 10000 := by
  obtain ⟨-, -, -, -, -, ⟨f1, f2⟩, -⟩ := f
  have h1 := h.1
  have h2 := h.2
  have e0 : pMeas S e = yMe S e := if_neg (by rw [i_le, i_0]; omega)
  rw [e0]
  refine ⟨rfl, ?_⟩
  have hk : (e.toInt.tdiv (S 5).toInt * (S 5).toInt).natAbs ≤ 10000 := by
    rw [Int.natAbs_mul, Int.natAbs_tdiv]
    exact Nat.le_trans (Nat.div_mul_le_self _ _) (by omega)
  have hd : (e.toInt.tdiv (S 5).toInt).natAbs ≤ 10000 := by
    rw [Int.natAbs_tdiv]
    exact Nat.le_trans (Nat.div_le_self _ _) (by omega)
  have e1 : (e / S 5).toInt = e.toInt.tdiv (S 5).toInt := by
    rw [Int32.toInt_div]
    exact Int.bmod_eq_of_le (by omega) (by omega)
  have e2 : (yMe S e).toInt = e.toInt.tdiv (S 5).toInt * (S 5).toInt := by
    unfold yMe
    rw [i_mul (by rw [e1]; omega) (by rw [e1]; omega), e1]
  exact ⟨by rw [e2]; omega, by rw [e2]; omega⟩
theorem yD_eq {S : Nat → Int32} (f : sF S) : yD S = xD S := by
  obtain ⟨-, -, -, -, -, -, ⟨f1, f2⟩, -⟩ := f
  unfold yD xD iMax
  rw [if_neg (by rw [i_lt, i_0]; omega)]
theorem yH_eq {S : Nat → Int32} {t : Nat} {σ : xT} (f : sF S) (b : bd σ) : yH S t σ = xH S t σ ∧ ∀ j, ab (xH S t σ j) 10000 := by
  obtain ⟨m1, m2⟩ := me_eq f b.1
  refine ⟨by unfold yH xH; rw [m1], fun j => ?_⟩
  unfold xH upd
  split
  · exact m2
  · exact b.2.2.2.2.2 j
theorem sn_eq {S : Nat → Int32} {t : Nat} {σ : xT} (f : sF S) (b : bd σ) : ySn S t σ = xSn S t σ ∧ ab (xSn S t σ) 10000 ∧ yCh S t σ = xCh S t σ ∧ ab (xCh S t σ) 20000 := by
  obtain ⟨h1, h2⟩ := yH_eq (t := t) f b
  have e1 : ySn S t σ = xSn S t σ := by unfold ySn xSn; rw [h1, yD_eq f]
  have a1 : ab (xSn S t σ) 10000 := h2 _
  have a2 := h2 (t - 1 - xD S)
  refine ⟨e1, a1, ?_, ?_⟩
  · unfold yCh xCh
    rw [e1, h1, yD_eq f]
  · unfold xCh
    split
    · exact ⟨by decide, by decide⟩
    · have := a1.1
      have := a1.2
      have := a2.1
      have := a2.2
      have e := i_sub (a := xSn S t σ) (b := xH S t σ (t - 1 - xD S)) (by omega) (by omega)
      exact ⟨by rw [e]; omega, by rw [e]; omega⟩
theorem sum_eq {S : Nat → Int32} {i s : Int32} (f : sF S) (h0 : S 10 = 0) (hi : ab i 1000000) (hs : ab s 10000) : yNx S i s = pSum S i s ∧ ab (pSum S i s) 1000000 := by
  obtain ⟨-, -, -, -, -, -, -, ⟨f1, f2⟩, -⟩ := f
  have l1 : ab (vX10_limited (i + s) 1000000) 1000000 := lim_ab (by decide) (by decide) (by decide)
  refine ⟨?_, ?_⟩
  · unfold yNx pSum
    rw [h0, if_neg (by decide), if_neg (by decide)]
    rfl
  · unfold pSum
    split
    · have := lim_ab (x := vX10_limited (i + s) 1000000) (b := S 8) (n := 100000) f1 (by omega) (by decide)
      exact ⟨by have := this.1; omega, by have := this.2; omega⟩
    · exact l1
theorem raw_st {S : Nat → Int32} {tab : Int32 → Int32} {s ch i out : Int32} (f : sF S) (ht : ∀ x, rTab S x = tab x) (hs : ab s 10000) (hc : ab ch 20000) (hi : ab i 1000000) : yRaw S s ch i out = (pRaw S tab s ch i out).toInt64 := by
  unfold yRaw pRaw pTwo
  obtain ⟨g0, g1, g2, -, -, -, -, -, -, d, -⟩ := id f
  rcases d with d | d | d
  · obtain ⟨e1, e2⟩ := sum_eq f d hi hs
    rw [e1, d, if_neg (by decide), if_neg (by decide), if_pos rfl]
    exact (raw_eq g0 g1 g2 hs e2 hc).1
  · simp only [d, eq_false (show ¬ (1 : Int32) = 0 by decide), if_true, if_false]
    by_cases q1 : s ≤ S 11 <;> by_cases q2 : -(S 11) ≤ s <;> simp only [q1, q2, if_true, if_false]
  · rw [d, if_neg (by decide), if_pos rfl, if_neg (by decide), if_neg (by decide), ht]
theorem out_eq {S : Nat → Int32} {tab : Int32 → Int32} {t : Nat} {σ : xT} (f : sF S) (ht : ∀ x, rTab S x = tab x) (b : bd σ) : yRw S t σ = (pRaw S tab (xSn S t σ) (xCh S t σ) σ.2.2.2.1 σ.2.2.2.2.1).toInt64 ∧ yNo S t σ = xNo S tab t σ ∧ ab (xNo S tab t σ) 1000 := by
  obtain ⟨e1, a1, e2, a2⟩ := sn_eq (t := t) f b
  obtain ⟨-, -, -, ⟨g1, g2⟩, -⟩ := id f
  have er : yRw S t σ = (pRaw S tab (xSn S t σ) (xCh S t σ) σ.2.2.2.1 σ.2.2.2.2.1).toInt64 := by
    unfold yRw
    rw [e1, e2]
    exact raw_st f ht a1 a2 b.2.2.2.1
  have b3 : ab (S 3) 1000 := ⟨by omega, g2⟩
  refine ⟨er, ?_, lim_ab (by omega) g2 (by decide)⟩
  unfold yNo xNo pOut
  rw [er]
  exact lim64 b3 (by decide)
theorem sat_eq {S : Nat → Int32} {tab : Int32 → Int32} {t : Nat} {σ : xT} (f : sF S) (ht : ∀ x, rTab S x = tab x) (b : bd σ) : yW S t σ = pSat S tab (xSn S t σ) (xCh S t σ) σ.2.2.2.1 σ.2.2.2.2.1 := by
  obtain ⟨er, eo, -⟩ := out_eq (t := t) f ht b
  unfold yW pSat
  rw [er, eo]
  simp only [lg_cmp_eq, z_inj]
  rfl
theorem int_eq {S : Nat → Int32} {tab : Int32 → Int32} {t : Nat} {σ : xT} (f : sF S) (ht : ∀ x, rTab S x = tab x) (b : bd σ) : yNi S t σ = xNi S tab t σ ∧ ab (xNi S tab t σ) 1000000 := by
  obtain ⟨er, eo, ao⟩ := out_eq (t := t) f ht b
  obtain ⟨e1, a1, e2, a2⟩ := sn_eq (t := t) f b
  have ai := b.2.2.2.1
  obtain ⟨g0, g1, g2, -, -, -, -, -, g9, d, -⟩ := id f
  unfold yNi xNi pInt yBeh pKept
  rw [er, eo, e1]
  by_cases d0 : S 10 = 0
  · obtain ⟨es, as⟩ := sum_eq f d0 ai a1
    rw [if_pos d0, if_pos d0, es]
    have hr : pRaw S tab (xSn S t σ) (xCh S t σ) σ.2.2.2.1 σ.2.2.2.2.1 = (S 0 * xSn S t σ + S 1 * pSum S σ.2.2.2.1 (xSn S t σ) + S 2 * xCh S t σ) / 64 := by
      unfold pRaw
      rw [if_pos d0]
    have ar : ab (pRaw S tab (xSn S t σ) (xCh S t σ) σ.2.2.2.1 σ.2.2.2.2.1) 16100000 := by
      rw [hr]
      exact (raw_eq g0 g1 g2 a1 as a2).2
    change _ = (if S 7 = 2 then (if pRaw S tab (xSn S t σ) (xCh S t σ) σ.2.2.2.1 σ.2.2.2.2.1 = xNo S tab t σ then pSum S σ.2.2.2.1 (xSn S t σ) else _) else _) ∧ ab (if S 7 = 2 then (if pRaw S tab (xSn S t σ) (xCh S t σ) σ.2.2.2.1 σ.2.2.2.2.1 = xNo S tab t σ then pSum S σ.2.2.2.1 (xSn S t σ) else _) else _) 1000000
    generalize pRaw S tab (xSn S t σ) (xCh S t σ) σ.2.2.2.1 σ.2.2.2.2.1 = r at *
    generalize pSum S σ.2.2.2.1 (xSn S t σ) = su at *
    by_cases d7 : S 7 = 2
    · rw [if_pos d7, if_pos d7]
      have z0 : ∀ x : Int32, x.toInt64 ≤ 0 ↔ x ≤ 0 := fun x => z_le (y := 0)
      have z1 : ∀ x : Int32, (0 : Int64) ≤ x.toInt64 ↔ 0 ≤ x := fun x => z_le (x := 0)
      simp only [lg_cmp_eq, lg_cmp_le, lg_cmp_ge, z_inj, z0, z1]
      refine ⟨trivial, ?_⟩
      repeat' split
      all_goals first | exact as | exact ai
    · rw [if_neg d7, if_neg d7]
      by_cases d8 : S 7 = 3
      · rw [if_pos d8, if_pos d8, back_eq as ar ao g9]
        exact ⟨lim64 (b := 1000000) (n := 1000000) ⟨by decide, by decide⟩ (by decide), lim_ab (by decide) (by decide) (by decide)⟩
      · rw [if_neg d8, if_neg d8]
        exact ⟨rfl, as⟩
  · rw [if_neg d0, if_neg d0]
    exact ⟨rfl, ai⟩
theorem act_eq {S : Nat → Int32} {tab : Int32 → Int32} {t : Nat} {σ : xT} (f : sF S) (ht : ∀ x, rTab S x = tab x) (b : bd σ) : yNa S t σ = xNa S tab t σ ∧ ab (xNa S tab t σ) 1000 := by
  obtain ⟨er, eo, ao⟩ := out_eq (t := t) f ht b
  obtain ⟨-, -, -, -, ⟨g1, g2⟩, -⟩ := id f
  have aa := b.2.2.1
  refine ⟨by unfold yNa xNa; rw [eo, lim_eq], ?_⟩
  unfold xNa
  have o1 := ao.1
  have o2 := ao.2
  have p1 := aa.1
  have p2 := aa.2
  have es : (xNo S tab t σ - σ.2.2.1).toInt = (xNo S tab t σ).toInt - σ.2.2.1.toInt := i_sub (by omega) (by omega)
  have en : (-(S 4)).toInt = -(S 4).toInt := i_neg (n := 1000) ⟨by omega, g2⟩ (by decide)
  have key : ∃ d : Int, (vX10_limited (xNo S tab t σ - σ.2.2.1) (S 4)).toInt = d ∧ -1000 ≤ σ.2.2.1.toInt + d ∧ σ.2.2.1.toInt + d ≤ 1000 := by
    unfold vX10_limited
    by_cases h1 : xNo S tab t σ - σ.2.2.1 ≤ S 4
    · rw [if_pos h1]
      by_cases h2 : -(S 4) ≤ xNo S tab t σ - σ.2.2.1
      · rw [if_pos h2]
        exact ⟨_, rfl, by rw [es]; omega, by rw [es]; omega⟩
      · rw [if_neg h2]
        rw [i_le, es, en] at h2
        exact ⟨_, rfl, by rw [en]; omega, by rw [en]; omega⟩
    · rw [if_neg h1]
      rw [i_le, es] at h1
      exact ⟨_, rfl, by omega, by omega⟩
  obtain ⟨d, hd, k1, k2⟩ := key
  have e := i_add (a := σ.2.2.1) (b := vX10_limited (xNo S tab t σ - σ.2.2.1) (S 4)) (by rw [hd]; omega) (by rw [hd]; omega)
  rw [hd] at e
  exact ⟨by rw [e]; exact k1, by rw [e]; exact k2⟩
theorem st_eq {S : Nat → Int32} {tab : Int32 → Int32} {cu pu : Nat → Int32} {t : Nat} {σ : xT} (f : sF S) (ht : ∀ x, rTab S x = tab x) (hc : rCur S (nI t) = cu t) (hp : rPus S (nI t) = pu t) (b : bd σ) : yN S t σ = xN S tab cu pu t σ ∧ bd (xN S tab cu pu t σ) := by
  obtain ⟨h1, h2⟩ := yH_eq (t := t) f b
  obtain ⟨i1, i2⟩ := int_eq (t := t) f ht b
  obtain ⟨a1, a2⟩ := act_eq (t := t) f ht b
  obtain ⟨-, o1, o2⟩ := out_eq (t := t) f ht b
  have eh : yNh S t σ = xNh S tab cu t σ := by unfold yNh xNh; rw [a1, hc, lim_eq]
  have ee : yNe S t σ = xNe S tab cu pu t σ := by unfold yNe xNe; rw [eh, hp, lim_eq]
  refine ⟨?_, ?_⟩
  · unfold yN xN
    rw [ee, eh, a1, i1, o1, h1]
  · exact ⟨lim_ab (by decide) (by decide) (by decide), lim_ab (by decide) (by decide) (by decide), a2, i2, o2, h2⟩
theorem ab_0 (n : Nat) : ab 0 n := ⟨by show -(n : Int) ≤ 0; omega, by show (0 : Int) ≤ n; omega⟩
theorem run_eq {S : Nat → Int32} {tab : Int32 → Int32} {cu pu : Nat → Int32} {N : Nat} (f : sF S) (ht : ∀ x, rTab S x = tab x) (hc : ∀ t, t < N → rCur S (nI t) = cu t) (hp : ∀ t, t < N → rPus S (nI t) = pu t) : ∀ t, t ≤ N → ySt S t = xSt S tab cu pu t ∧ bd (xSt S tab cu pu t)
  | 0, _ => by
    obtain ⟨-, -, -, -, -, -, -, -, -, -, -, g1, g2⟩ := f
    refine ⟨rfl, ⟨by show _ ≤ (S 12).toInt; omega, by show (S 12).toInt ≤ _; omega⟩, ab_0 _, ab_0 _, ab_0 _, ab_0 _, fun j => ab_0 _⟩
  | t + 1, h => by
    obtain ⟨e, b⟩ := run_eq f ht hc hp t (by omega)
    show yN S t (ySt S t) = xN S tab cu pu t _ ∧ _
    rw [e]
    exact st_eq f ht (hc t (by omega)) (hp t (by omega)) b
