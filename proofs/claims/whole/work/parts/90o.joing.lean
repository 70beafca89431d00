theorem tnt : ∀ n, n < 1000 → (-nI n).toInt = -(n : Int) := by decide +kernel
theorem dgs_3 : ∀ n, n < 1000 → (dNum (nI n)).length ≤ 3 := by decide +kernel
theorem sm_pos {x : Int32} (h1 : 0 ≤ x.toInt) (h2 : x.toInt ≤ 999) : sm x ∧ (dNum x).length ≤ 3 := by
  have hx : x = nI x.toInt.toNat := by
    apply Int32.toInt_inj.mp
    rw [nI_toInt (by omega)]
    omega
  refine ⟨⟨x.toInt.toNat, by omega, Or.inl hx⟩, ?_⟩
  rw [hx]
  exact dgs_3 _ (by omega)
theorem sm_of {x : Int32} (h1 : -999 ≤ x.toInt) (h2 : x.toInt ≤ 999) : sm x := by
  by_cases q : 0 ≤ x.toInt
  · exact (sm_pos q h2).1
  · refine ⟨(-x.toInt).toNat, by omega, Or.inr ⟨?_, by omega⟩⟩
    apply Int32.toInt_inj.mp
    rw [tnt _ (by omega)]
    omega
theorem kN_of {A : Nat → Int32} (h : aOK A) : kN A (nSg A) (nPs A) := by
  obtain ⟨-, -, -, -, -, -, -, -, hs, hp⟩ := h
  refine ⟨fun i hi => ?_, fun i hi => ?_⟩
  · obtain ⟨-, h1, h2⟩ := hs i hi
    have e1 : rL A i = A (42 + 3 * i) := by show A (41 + 3 * i + 1) = _; rw [show 41 + 3 * i + 1 = 42 + 3 * i from by omega]
    have e2 : rC A i = A (43 + 3 * i) := by show A (41 + 3 * i + 2) = _; rw [show 41 + 3 * i + 2 = 43 + 3 * i from by omega]
    have g1 := iw_n2 h1 (a := 1) (b := 99) rfl rfl
    have g2 := iw_n2 h2 (a := -50) (b := 50) rfl rfl
    rw [e1] at g1
    rw [e2] at g2
    exact ⟨sm_pos (by omega) (by omega), sm_of (by omega) (by omega)⟩
  · obtain ⟨h1, h2, h3⟩ := hp i hi
    have e1 : rF A i = A (66 + 3 * i) := rfl
    have e2 : rV A i = A (67 + 3 * i) := by show A (66 + 3 * i + 1) = _; rw [show 66 + 3 * i + 1 = 67 + 3 * i from by omega]
    have e3 : rW A i = A (68 + 3 * i) := by show A (66 + 3 * i + 2) = _; rw [show 66 + 3 * i + 2 = 68 + 3 * i from by omega]
    have g1 := iw_n2 h1 (a := 0) (b := 199) rfl rfl
    have g2 := iw_n2 h2 (a := -500) (b := 500) rfl rfl
    have g3 := iw_n2 h3 (a := 1) (b := 99) rfl rfl
    rw [e1] at g1
    rw [e2] at g2
    rw [e3] at g3
    exact ⟨sm_pos (by omega) (by omega), sm_of (by omega) (by omega), sm_pos (by omega) (by omega)⟩
theorem kF_of {w : mH} {t : Nat} {A : Nat → Int32} (z : zTrk w t) (k : kRep w t A) : kF t w A (nSg A) (nPs A) := by
  obtain ⟨n, m, h1, h2, h3, h4, h5, h6, h7, h8⟩ := k
  have en : nSg A = n := by unfold nSg; rw [h3]; exact m_cl (by omega)
  have em : nPs A = m := by unfold nPs; rw [h5]; exact m_cl (by omega)
  rw [en, em]
  refine ⟨z, h1, h2, h4, h6, fun i hi => ?_, fun i hi => ?_⟩
  · obtain ⟨g1, g2, g3⟩ := h7 i hi
    rw [show 41 + 3 * i + 1 = 42 + 3 * i from by omega] at g2
    rw [show 41 + 3 * i + 2 = 43 + 3 * i from by omega] at g3
    exact ⟨g1, g2, g3⟩
  · obtain ⟨g1, g2, g3⟩ := h8 i hi
    rw [show 66 + 3 * i + 1 = 67 + 3 * i from by omega] at g2
    rw [show 66 + 3 * i + 2 = 68 + 3 * i from by omega] at g3
    exact ⟨g1, g2, g3⟩
theorem oT_d {a b p : Nat} {F P : List Nat} {w x : mH} (d : dF (a + 148) p w x) (hp : p = a + 149 ∨ b + 23 ≤ p) (hb : a + 194 ≤ b) (hN' : b + 23 ≤ hN w) : oT a b (a + 148) (a + 150) 0 0 1 F P w x := by
  have g : ∀ q, q < b + 23 → q ≠ a + 148 → q ≠ p → hfi x q = hfi w q ∧ hfl x q = hfl w q ∧ hai x q = hai w q ∧ hal x q = hal w q := by
    intro q h1 h2 h3
    obtain ⟨f1, f2, f3, f4, f5, f6⟩ := d.2 q (by omega)
    exact ⟨(f2 h2).1, f4, f3 h3, f5⟩
  refine ⟨d.1, fun q hq => ?_, fun q h1 h2 h3 => ?_, fun k _ => ?_, ⟨fun j h1 h2 _ => ?_, fun _ => ?_⟩, fun h => absurd h (by decide)⟩
  · obtain ⟨f1, f2, f3, f4, f5, f6⟩ := d.2 q (by omega)
    exact ⟨f1, fun h => (f2 h).2, f6⟩
  · exact g q (by omega) (by omega) (by omega)
  · rw [(g b (by omega) (by omega) (by omega)).1]
  · exact (g (b + j) (by omega) (by omega) (by omega)).2.2.1
  · exact (g (b + 19) (by omega) (by omega) (by omega)).2.2.2
theorem tDes_b {T : List Int32} {x : Int32} : tDes T x = 0 ∨ tDes T x = 1 := by
  unfold tDes
  by_cases q : vX11_in x.toInt64 (-1) (nI T.length - 1).toInt64 = 0
  · rw [if_pos q]; exact Or.inr rfl
  · rw [if_neg q]; exact Or.inl rfl
theorem K_describe {G : mG} {a b : Nat} {w : mH} {x1 : Int32} (I : gI a b w) : mCH G mL_describe 10 84 11792 [.ref a, .int x1, .ref (b + 22)] w (fun r u => ∃ t : Int32, r = .inl (some (.int t)) ∧ hk u b = (11, 0) ∧ mC G mX11_describe 3 0 0 [.ref b, .int x1] u (fun r' u' => ∃ v : Int32, r' = .inl (some (.int v)) ∧ gP a b u' t v.toInt64)) := by
  obtain ⟨hb, i2, i3, i4, i5, i6, i7, i8, i9, i10, i11, i12, i13, i14, i15, i16⟩ := id I
  obtain ⟨p, m, t1, t2, t3, t4, ⟨k, t5, t6⟩, t7, t8, t9⟩ := id i7
  have zs : zSet w (a + 1) := by unfold zBen at i3; exact i3.2.2.2.2.2.2.2.2.2.2.2.1
  have zk : zTrk w (a + 11) := by unfold zSet at zs; exact zs.2.2.2.2.2.2.2.2.2.2
  have kr : kRep w (a + 11) (hai w (b + 1)) := i8.1.2.2.2.2
  have S : kS (a + 11) (a + 148) p w := ⟨by omega, by omega, by omega⟩
  have z12 : hk w (a + 148) = (12, 0) := by unfold zBen at i3; exact i3.2.2.2.2.2.2.2.2.2.2.2.2.2.2.2.2.2.2.2.2.2.2
  refine mCH_mono (fun r u h => ?_) (tL_describe (show mC _ _ _ _ _ _ _ (tpO _ _ _ (tDes (tPu (hai w (b + 1)) (nSg (hai w (b + 1))) (nPs (hai w (b + 1)))) x1) _ _ _) from tX10_describe i3 S (kF_of zk kr) (kN_of i8.2) (by omega) t1 t2 t3 t4 t5 t6 t8 t9 (by omega)) i3.1 tDes_b (fun u hu => ?_))
  rotate_left
  · obtain ⟨p', m', hX⟩ := hu
    rw [(hX.1.2 (b + 22) (by omega)).1]; exact i5
  obtain ⟨hr, h0, h1⟩ := h
  refine ⟨_, hr, ?_⟩
  have J : ∃ x : mH, dS (a + 148) p w x (tPu (hai w (b + 1)) (nSg (hai w (b + 1))) (nPs (hai w (b + 1)))) ∧ (∀ l1 h1 l2 h2 e F P, oT a b l1 h1 l2 h2 e F P x u) ∧ (tDes (tPu (hai w (b + 1)) (nSg (hai w (b + 1))) (nPs (hai w (b + 1)))) x1 = 0 → hal u (b + 22) 0 = (vDes (tPu (hai w (b + 1)) (nSg (hai w (b + 1))) (nPs (hai w (b + 1)))) x1).toInt64) := by
    by_cases q : tDes (tPu (hai w (b + 1)) (nSg (hai w (b + 1))) (nPs (hai w (b + 1)))) x1 = 0
    · obtain ⟨x, hx, eu⟩ := h0 q
      subst eu
      exact ⟨x, hx, fun _ _ _ _ _ _ _ => oT_sal, fun _ => by rw [e_hal_sal, up2_at]⟩
    · obtain ⟨x, n, hx, hn, eu⟩ := h1 q
      subst eu
      exact ⟨x, hx, fun _ _ _ _ _ _ _ => oT_snn hn, fun h => absurd h q⟩
  obtain ⟨x, hx, Tx, hy⟩ := J
  obtain ⟨p', m', hX⟩ := hx
  have Tw : ∀ F P, oT a b (a + 148) (a + 150) 0 0 1 F P w u := fun F P => (oT_d hX.1 t7 hb i2).tr (Tx _ _ _ _ _ _ _)
  have z := zRef_o (Tw [] []) hb i4
  refine ⟨z.1, ?_⟩
  have r1 : hai u (b + 1) = hai w (b + 1) := (Tw [] []).ai (by decide) (by decide) (by decide)
  refine mC_mono (fun r' u' h' => ?_) (rX11_describe z r1 i8.2.2.2.2.2.2.2.2.1)
  obtain ⟨rfl, X, g0⟩ := h'
  have T : oT a b (a + 148) (a + 150) 0 0 1 [0, 14] [7] w u' := (Tw _ _).tr (oT_r X (by decide))
  have T2 : oT a b 0 0 0 0 0 [0, 14] [7] x u' := (Tx _ _ _ _ _ _ _).tr (oT_r X (by decide))
  have C : cTxt a b x := by
    obtain ⟨hF, s0, s1, b1, b2, b3, b4, b5, b6, b7, b8, b9, b10, b11, b12, b13⟩ := hX
    exact ⟨p', m', b2, b3, b4, b5, ⟨_, b6, by omega⟩, by rcases b10 with e | e; rw [e]; exact t7; exact Or.inr (by omega), b9, b11⟩
  refine ⟨_, rfl, ⟨hb, Nat.le_trans i2 T.1, zBen_o T hb i3, zRef_o T hb i4, by rw [(T.2.1 (b + 22) (by omega)).1]; exact i5, cst_o T (by decide) (by decide) i6, cTxt_o T2 rfl hb (by omega) (by omega) C, cNow_o T hb (by omega) (by omega) (by decide) i8, cHis_o T hb (by omega) (by omega) (by decide) (by decide) i9, cSav_o T hb (by omega) (by omega) (by decide) (fun k _ => by rw [rwR_o T (by decide)]) i10, cRea_o T hb (by omega) (by omega) (by decide) (by decide) i11, cErr_o T hb (by omega) (by omega) (by decide) i12, cTra_o T hb (by omega) (by omega) (by decide) (by decide) (by decide) i13, cHel_o T hb (by omega) (by omega) (by decide) (by decide) (by decide) i14, cFnd_o T (by omega) (by omega) (by omega) (by decide) (by decide) (by decide) (by decide) i15, cFnd_o T (by omega) (by omega) (by omega) (by decide) (by decide) (by decide) (by decide) i16⟩, g0, fun h => ?_⟩
  rw [X.al (by decide)]; exact hy h
