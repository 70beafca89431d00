/-! one call of both sides, calls that change nothing but what is thrown -/
theorem mCH_mono {G : mG} {M : mM} {d kc ks : Nat} {w : mH} {Φ Ψ : mF} (h : ∀ o w', Ψ o w' → Φ o w') {av : List Value} (k : mCH G M d kc ks av w Ψ) : mCH G M d kc ks av w Φ := by
  intro l hl
  refine MetFree.mono (k l hl) (fun _ _ h => h) (fun _ _ _ _ _ h => h) (fun a st o t _ hq => ?_)
  rcases hq with ⟨⟨v, w', c1, c2, c3⟩, c4⟩ | ⟨q, c1, E, ce, L, ⟨w', c2, c3⟩, c4⟩
  · exact Or.inl ⟨⟨v, w', c1, h _ _ c2, c3⟩, c4⟩
  · exact Or.inr ⟨q, c1, E, ce, L, ⟨w', h _ _ c2, c3⟩, c4⟩
def gP (a b : Nat) (u' : mH) (t : Int32) (y : Int64) : Prop := gI a b u' ∧ hfi u' b 0 = t ∧ (t = 0 → hal u' (b + 22) 0 = y)
abbrev FR : List Nat := [0, 9, 12, 14, 22, 24]
abbrev PR : List Nat := [6, 7, 8, 9, 10, 11, 12, 13, 14, 21]
section
variable {a b : Nat} {w u u' : mH} {t : Int32} {y : Int64}
theorem gI_rd2 {l1 h1 : Nat} (q : (a + 172 ≤ l1 ∧ h1 ≤ a + 190) ∨ (l1 = 0 ∧ h1 = 0)) (T : oT a b l1 h1 0 0 0 FR PR w u) (I : gI a b w) : gI a b u := by
  obtain ⟨hb, i2, i3, i4, i5, i6, i7, i8, i9, i10, i11, i12, i13, i14, i15, i16⟩ := I
  exact ⟨hb, Nat.le_trans i2 T.1, zBen_o T hb i3, zRef_o T hb i4, by rw [(T.2.1 (b + 22) (by omega)).1]; exact i5, cst_o T (by decide) (by decide) i6, cTxt_o T rfl hb (by omega) (by omega) i7, cNow_o T hb (by omega) (by omega) (by decide) i8, cHis_o T hb (by omega) (by omega) (by decide) (by decide) i9, cSav_o T hb (by omega) (by omega) (by decide) (fun k _ => by rw [rwR_o T (by decide)]) i10, cRea_o T hb (by omega) (by omega) (by decide) (by decide) i11, cErr_o T hb (by omega) (by omega) (by decide) i12, cTra_o T hb (by omega) (by omega) (by decide) (by decide) (by decide) i13, cHel_o T hb (by omega) (by omega) (by decide) (by decide) (by decide) i14, cFnd_o T (by omega) (by omega) (by omega) (by decide) (by decide) (by decide) (by decide) i15, cFnd_o T (by omega) (by omega) (by omega) (by decide) (by decide) (by decide) (by decide) i16⟩
theorem gI_rd (T : oT a b 0 0 0 0 0 FR PR w u) (I : gI a b w) : gI a b u := gI_rd2 (Or.inr ⟨rfl, rfl⟩) T I
theorem jn_rd (h0 : t = 0 → ∃ x, x = w ∧ u = sal x (b + 22) 0 y) (h1 : ¬ t = 0 → ∃ (x : mH) (n : Nat), x = w ∧ hN x ≤ n ∧ u = snn x n) : (∀ l1 h1 l2 h2 e F P, oT a b l1 h1 l2 h2 e F P w u) ∧ (t = 0 → hal u (b + 22) 0 = y) := by
  by_cases q : t = 0
  · obtain ⟨x, hx, hu⟩ := h0 q
    subst hx; subst hu
    exact ⟨fun _ _ _ _ _ _ _ => oT_sal, fun _ => by rw [e_hal_sal, up2_at]⟩
  · obtain ⟨x, n, hx, hn, hu⟩ := h1 q
    subst hx; subst hu
    exact ⟨fun _ _ _ _ _ _ _ => oT_snn hn, fun h => absurd h q⟩
theorem jn_fin (I : gI a b w) (T : ∀ l1 h1 l2 h2 e F P, oT a b l1 h1 l2 h2 e F P w u) (X : xF FR PR b u u') (ht : hfi u' b 0 = t) (hy : t = 0 → hal u (b + 22) 0 = y) : gP a b u' t y :=
  ⟨gI_rd ((T _ _ _ _ _ _ _).tr (oT_r X (by decide))) I, ht, fun h => by rw [X.al (by decide)]; exact hy h⟩
/-- .. that writes what is thrown alone -/
theorem jn_s {s : Int32} (I : gI a b w) (T : ∀ l1 h1 l2 h2 e F P, oT a b l1 h1 l2 h2 e F P w u) (hs : s = t) (hy : t = 0 → hal u (b + 22) 0 = y) : gP a b (sfi u b 0 s) t y :=
  jn_fin I T (xF_sfi xF.rf (by decide)) (by rw [e_hfi_sfi, up2_at, hs]) hy
end
theorem wi_in {x lo hi : Int32} {L H : Int64} (hL : L = lo.toInt64) (hH : H = hi.toInt64) : (if vX11_in x.toInt64 L H = 0 then (1 : Int32) else 0) = wi01 x lo hi := by
  unfold wi01; rw [in_eq hL hH]
theorem wi01_0 {x lo hi : Int32} (h : wi01 x lo hi = 0) : ¬ vX10_isWithin x lo hi = 0 := fun q => by unfold wi01 at h; rw [if_pos q] at h; exact absurd h (by decide)
theorem wi01_b {x lo hi : Int32} : wi01 x lo hi = 0 ∨ wi01 x lo hi = 1 := by
  unfold wi01
  by_cases q : vX10_isWithin x lo hi = 0
  · rw [if_pos q]; exact Or.inr rfl
  · rw [if_neg q]; exact Or.inl rfl
theorem K_setting {G : mG} {a b : Nat} {w : mH} {x1 : Int32} (I : gI a b w) : mCH G mL_setting 10 1 6 [.ref a, .int x1, .ref (b + 22)] w (fun r u => ∃ t : Int32, r = .inl (some (.int t)) ∧ hk u b = (11, 0) ∧ mC G mX11_setting 2 0 0 [.ref b, .int x1] u (fun r' u' => ∃ v : Int32, r' = .inl (some (.int v)) ∧ gP a b u' t (v.toInt64))) := by
  obtain ⟨hb, i2, i3, i4, i5, i6, i7, i8, i9, i10, i11, i12, i13, i14, i15, i16⟩ := id I
  refine mCH_mono (fun r u h => ?_) (tL_setting (tX10_setting i3 i8.1) i3.1 (wi01_b) (fun u hu => by cases hu; exact i5))
  obtain ⟨hr, h0, h1⟩ := h
  refine ⟨_, hr, ?_⟩
  obtain ⟨T, hy⟩ := jn_rd (a := a) h0 h1
  have z := zRef_o (T 0 0 0 0 0 [] []) hb i4
  refine ⟨z.1, ?_⟩
  have r1 : hai u (b + 1) = hai w (b + 1) := (T 0 0 0 0 0 [] []).ai (by decide) (by decide) (by decide)
  refine mC_mono (fun r' u' h' => ?_) (rX11_setting z)
  obtain ⟨rfl, rfl⟩ := h'
  refine ⟨_, rfl, jn_s I T (wi_in rfl rfl) (fun h => ?_)⟩
  rw [hy h]
  unfold vX11_setting_
  rw [in_eq (A := 0) (B := 14) (a := 0) (b := 14) rfl rfl, if_neg (wi01_0 h), r1]
theorem K_table {G : mG} {a b : Nat} {w : mH} {x1 : Int32} (I : gI a b w) : mCH G mL_table 10 1 6 [.ref a, .int x1, .ref (b + 22)] w (fun r u => ∃ t : Int32, r = .inl (some (.int t)) ∧ hk u b = (11, 0) ∧ mC G mX11_table 3 0 0 [.ref b, .int x1] u (fun r' u' => ∃ v : Int32, r' = .inl (some (.int v)) ∧ gP a b u' t (v.toInt64))) := by
  obtain ⟨hb, i2, i3, i4, i5, i6, i7, i8, i9, i10, i11, i12, i13, i14, i15, i16⟩ := id I
  refine mCH_mono (fun r u h => ?_) (tL_table (tX10_table i3 i8.1) i3.1 (wi01_b) (fun u hu => by cases hu; exact i5))
  obtain ⟨hr, h0, h1⟩ := h
  refine ⟨_, hr, ?_⟩
  obtain ⟨T, hy⟩ := jn_rd (a := a) h0 h1
  have z := zRef_o (T 0 0 0 0 0 [] []) hb i4
  refine ⟨z.1, ?_⟩
  have r1 : hai u (b + 1) = hai w (b + 1) := (T 0 0 0 0 0 [] []).ai (by decide) (by decide) (by decide)
  refine mC_mono (fun r' u' h' => ?_) (rX11_table z (by rw [r1]; exact i8.2.2.2.2.2.1) (by rw [r1]; exact i8.2.2.2.2.2.2.1))
  obtain ⟨rfl, rfl⟩ := h'
  refine ⟨_, rfl, jn_s I T (wi_in rfl rfl) (fun h => ?_)⟩
  rw [hy h]
  unfold vX11_table_
  rw [in_eq (A := -10000) (B := 10000) (a := -10000) (b := 10000) rfl rfl, if_neg (wi01_0 h), r1, rTab_eq i8.2.2.2.2.2.2.2.1 i8.2.2.2.2.2.2.1]
theorem K_curvature {G : mG} {a b : Nat} {w : mH} {x1 : Int32} (I : gI a b w) : mCH G mL_curvature 10 1 6 [.ref a, .int x1, .ref (b + 22)] w (fun r u => ∃ t : Int32, r = .inl (some (.int t)) ∧ hk u b = (11, 0) ∧ mC G mX11_curvature 2 0 0 [.ref b, .int x1] u (fun r' u' => ∃ v : Int32, r' = .inl (some (.int v)) ∧ gP a b u' t (v.toInt64))) := by
  obtain ⟨hb, i2, i3, i4, i5, i6, i7, i8, i9, i10, i11, i12, i13, i14, i15, i16⟩ := id I
  refine mCH_mono (fun r u h => ?_) (tL_curvature (tX10_curvature i3 i8.1) i3.1 (wi01_b) (fun u hu => by cases hu; exact i5))
  obtain ⟨hr, h0, h1⟩ := h
  refine ⟨_, hr, ?_⟩
  obtain ⟨T, hy⟩ := jn_rd (a := a) h0 h1
  have z := zRef_o (T 0 0 0 0 0 [] []) hb i4
  refine ⟨z.1, ?_⟩
  have r1 : hai u (b + 1) = hai w (b + 1) := (T 0 0 0 0 0 [] []).ai (by decide) (by decide) (by decide)
  refine mC_mono (fun r' u' h' => ?_) (rX11_curvature z (by rw [r1]; exact (rOK_of i8.2).2.2.2.2.2.1))
  obtain ⟨rfl, rfl⟩ := h'
  refine ⟨_, rfl, jn_s I T (wi_in rfl rfl) (fun h => ?_)⟩
  rw [hy h]
  unfold vX11_curvature_
  rw [in_eq (A := 0) (B := 199) (a := 0) (b := 199) rfl rfl, if_neg (wi01_0 h), r1, rCur_eq i8.2.2.2.2.2.2.2.2.2.1]
theorem K_push {G : mG} {a b : Nat} {w : mH} {x1 : Int32} (I : gI a b w) : mCH G mL_push 10 1 6 [.ref a, .int x1, .ref (b + 22)] w (fun r u => ∃ t : Int32, r = .inl (some (.int t)) ∧ hk u b = (11, 0) ∧ mC G mX11_push 2 0 0 [.ref b, .int x1] u (fun r' u' => ∃ v : Int32, r' = .inl (some (.int v)) ∧ gP a b u' t (v.toInt64))) := by
  obtain ⟨hb, i2, i3, i4, i5, i6, i7, i8, i9, i10, i11, i12, i13, i14, i15, i16⟩ := id I
  refine mCH_mono (fun r u h => ?_) (tL_push (tX10_push i3 i8.1) i3.1 (wi01_b) (fun u hu => by cases hu; exact i5))
  obtain ⟨hr, h0, h1⟩ := h
  refine ⟨_, hr, ?_⟩
  obtain ⟨T, hy⟩ := jn_rd (a := a) h0 h1
  have z := zRef_o (T 0 0 0 0 0 [] []) hb i4
  refine ⟨z.1, ?_⟩
  have r1 : hai u (b + 1) = hai w (b + 1) := (T 0 0 0 0 0 [] []).ai (by decide) (by decide) (by decide)
  refine mC_mono (fun r' u' h' => ?_) (rX11_push z (by rw [r1]; exact i8.2.2.2.2.2.2.2.2.1))
  obtain ⟨rfl, rfl⟩ := h'
  refine ⟨_, rfl, jn_s I T (wi_in rfl rfl) (fun h => ?_)⟩
  rw [hy h]
  obtain ⟨s, hs, hx⟩ := iw_N (n := 199) (by decide) rfl (wi01_0 h)
  unfold vX11_push_
  rw [in_eq (A := 0) (B := 199) (a := 0) (b := 199) rfl rfl, if_neg (wi01_0 h), r1, hx, rPus_eq i8.2.2.2.2.2.2.2.2.2.2 (by omega)]
theorem pnt_b {x1 x2 y : Int32} : (if vX10_isWithin x1 0 y = 0 then (1 : Int32) else if vX10_isWithin x2 0 1 = 0 then 2 else 0) = 0 ∨ (if vX10_isWithin x1 0 y = 0 then (1 : Int32) else if vX10_isWithin x2 0 1 = 0 then 2 else 0) = 1 ∨ (if vX10_isWithin x1 0 y = 0 then (1 : Int32) else if vX10_isWithin x2 0 1 = 0 then 2 else 0) = 2 := by
  by_cases q : vX10_isWithin x1 0 y = 0
  · rw [if_pos q]; exact Or.inr (Or.inl rfl)
  · rw [if_neg q]
    by_cases q2 : vX10_isWithin x2 0 1 = 0
    · rw [if_pos q2]; exact Or.inr (Or.inr rfl)
    · rw [if_neg q2]; exact Or.inl rfl
theorem pnt_0 {x1 x2 y : Int32} (h : (if vX10_isWithin x1 0 y = 0 then (1 : Int32) else if vX10_isWithin x2 0 1 = 0 then 2 else 0) = 0) : ¬ vX10_isWithin x1 0 y = 0 ∧ ¬ vX10_isWithin x2 0 1 = 0 := by
  by_cases q : vX10_isWithin x1 0 y = 0
  · rw [if_pos q] at h; exact absurd h (by decide)
  · rw [if_neg q] at h
    by_cases q2 : vX10_isWithin x2 0 1 = 0
    · rw [if_pos q2] at h; exact absurd h (by decide)
    · exact ⟨q, q2⟩
theorem K_point {G : mG} {a b : Nat} {w : mH} {x1 : Int32} {x2 : Int32} (I : gI a b w) : mCH G mL_point 10 1 6 [.ref a, .int x1, .int x2, .ref (b + 22)] w (fun r u => ∃ t : Int32, r = .inl (some (.int t)) ∧ hk u b = (11, 0) ∧ mC G mX11_point 3 0 0 [.ref b, .int x1, .int x2] u (fun r' u' => ∃ v : Int32, r' = .inl (some (.int v)) ∧ gP a b u' t (v.toInt64))) := by
  obtain ⟨hb, i2, i3, i4, i5, i6, i7, i8, i9, i10, i11, i12, i13, i14, i15, i16⟩ := id I
  refine mCH_mono (fun r u h => ?_) (tL_point (tX10_point i3 i8.1) i3.1 (pnt_b) (fun u hu => by cases hu; exact i5))
  obtain ⟨hr, h0, h1⟩ := h
  refine ⟨_, hr, ?_⟩
  obtain ⟨T, hy⟩ := jn_rd (a := a) h0 h1
  have z := zRef_o (T 0 0 0 0 0 [] []) hb i4
  refine ⟨z.1, ?_⟩
  have r1 : hai u (b + 1) = hai w (b + 1) := (T 0 0 0 0 0 [] []).ai (by decide) (by decide) (by decide)
  refine mC_mono (fun r' u' h' => ?_) (rX11_point z (by rw [r1]; exact i8.2.2.2.2.2.1))
  obtain ⟨rfl, rfl⟩ := h'
  have hp := i8.2.2.2.2.2.1
  refine ⟨_, rfl, jn_s I T ?_ (fun h => ?_)⟩
  · unfold tX11_point
    rw [in_eq (A := 0) (a := 0) (b := hai u (b + 1) 29 - 1) rfl rfl, in_eq (A := 0) (B := 1) (a := 0) (b := 1) rfl rfl, ite_self, r1]
  · rw [hy h]
    obtain ⟨g1, g2⟩ := pnt_0 h
    obtain ⟨s, hs, hx⟩ := iw_1 _ hp.2 (congrArg (· - 1) hp.1) g1
    unfold vX11_point_ vX11_x vX11_y
    rw [in_eq (A := 0) (a := 0) (b := hai u (b + 1) 29 - 1) rfl rfl, in_eq (A := 0) (B := 1) (a := 0) (b := 1) rfl rfl, r1, if_neg g1, if_neg g2, hx, m_30, m_p1, m_cl (by have := hp.2; omega), m_cl (by have := hp.2; omega), m_cl (by have := hp.2; omega)]
    rfl
