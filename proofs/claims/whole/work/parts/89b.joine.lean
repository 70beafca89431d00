theorem cp_r {v v' : mH} {b f t r k : Nat} (e : hai v' (b + 1) = cpR (hai v (b + 1)) f t) (hk : k < 78) : rwR v' b r k = if r = t then rwR v b f k else rwR v b r k := by
  unfold rwR
  rw [e, cpR_row hk]
theorem K_undo {G : mG} {a b : Nat} {w : mH}  (I : gI a b w) : mCH G mL_undo 10 1 6 [.ref a, .ref (b + 22)] w (fun r u => ∃ t : Int32, r = .inl (some (.int t)) ∧ hk u b = (11, 0) ∧ mC G mX11_undo 4 0 0 [.ref b] u (fun r' u' => ∃ v : Int32, r' = .inl (some (.int v)) ∧ gP a b u' t v.toInt64)) := by
  obtain ⟨hb, i2, i3, i4, i5, i6, i7, i8, i9, i10, i11, i12, i13, i14, i15, i16⟩ := id I
  obtain ⟨c, h5, hc, hH, okR⟩ := id i9
  refine mCH_mono (fun r u h => ?_) (tL_undo (show mC _ _ _ _ _ _ _ (tpO _ _ _ (if c = 0 then 1 else 0) _ _ _) from tX10_undo i3 hH) i3.1 i10_b (fun u hu => by rw [show hk u = hk w from hu.1.1.1]; exact i5))
  obtain ⟨hr, h0, h1⟩ := h
  refine ⟨_, hr, ?_⟩
  have T0 : ∀ e F P, oT a b (a + 1) (a + 18) (a + 35) (a + 139) e F P w u := by
    by_cases q : (if c = 0 then (1 : Int32) else 0) = 0
    · obtain ⟨x, hx, eu⟩ := h0 q
      subst eu
      exact fun _ _ _ => (oT_c hx.1 (by omega) (by omega)).tr oT_sal
    · obtain ⟨x, n, hx, hn, eu⟩ := h1 q
      cases hx; subst eu
      exact fun _ _ _ => oT_snn hn
  have z := zRef_o (T0 0 [] []) hb i4
  refine ⟨z.1, ?_⟩
  have rr : ∀ r, rwR u b r = rwR w b r := fun r => rwR_o (T0 0 [] []) (by decide) r
  refine mC_mono (fun r' u' h' => ?_) (rX11_undo z (by rw [(T0 0 [] []).fi (show 5 ∉ ([] : List Nat) by decide)]; exact h5) hc)
  obtain ⟨rfl, X, g0, g1, g2⟩ := h'
  refine ⟨_, rfl, ?_⟩
  by_cases q : c = 0
  · have qt : ¬ (if c = 0 then (1 : Int32) else 0) = 0 := by rw [if_pos q]; decide
    exact ch_bad I qt (h1 qt) (g1 q).1 g0
  · have qt : (if c = 0 then (1 : Int32) else 0) = 0 := by rw [if_neg q]
    obtain ⟨x, hx, eu⟩ := h0 qt
    obtain ⟨f5, fr⟩ := g2 q
    have T : oT a b (a + 1) (a + 18) (a + 35) (a + 139) 0 [0, 5] [1] w u' := (T0 0 _ _).tr (oT_r X (by decide))
    have S : oT a b 0 0 0 0 0 [0, 5] [1] x u' := by rw [eu] at X; exact oT_sal.tr (oT_r X (by decide))
    have hrow : ∀ r k, k < 78 → rwR u' b r k = if r = 0 then rwR w b c k else rwR w b r k := fun r k hk => by rw [cp_r fr hk, rr, rr]
    have n0 : ∀ k, k < 78 → hai u' (b + 1) k = rwR w b (c - 1 + 1) k := fun k hk => by rw [← rwR_0 (w := u'), hrow 0 k hk, if_pos rfl, show c - 1 + 1 = c by omega]
    have hR : ∀ i, i < c - 1 → ∀ k, k < 78 → rwR u' b (i + 1) k = rwR w b (i + 1) k := fun i _ k hk => by rw [hrow (i + 1) k hk, if_neg (by omega)]
    refine ⟨⟨hb, Nat.le_trans i2 T.1, zBen_o T hb i3, zRef_o T hb i4, by rw [(T.2.1 (b + 22) (by omega)).1]; exact i5, cst_o T (by decide) (by decide) i6, cTxt_o T rfl hb (by omega) (by omega) i7, ⟨sRep_A n0 (sRep_in (S.inn (lo := a + 1) (hi := a + 18) (by omega) (by omega) (by omega)) (by omega) hx.2.2), aOK_c n0 (okR (c - 1) (by omega))⟩, ⟨c - 1, f5, by omega, hRep_A hR (hRep_in (S.inn (lo := a + 35) (hi := a + 139) (by omega) (by omega) (by omega)) (by omega) hx.2.1), fun i hi => aOK_c (hR i hi) (okR i (by omega))⟩, cSav_o T hb (by omega) (by omega) (by decide) (fun k hk => by rw [hrow 7 k hk, if_neg (by decide)]) i10, cRea_o T hb (by omega) (by omega) (by decide) (by decide) i11, cErr_o T hb (by omega) (by omega) (by decide) i12, cTra_o T hb (by omega) (by omega) (by decide) (by decide) (by decide) i13, cHel_o T hb (by omega) (by omega) (by decide) (by decide) (by decide) i14, cFnd_o T (by omega) (by omega) (by omega) (by decide) (by decide) (by decide) (by decide) i15, cFnd_o T (by omega) (by omega) (by omega) (by decide) (by decide) (by decide) (by decide) i16⟩, g0, fun _ => ?_⟩
    · rw [X.al (by decide), eu, e_hal_sal, up2_at, if_neg q]
theorem K_save {G : mG} {a b : Nat} {w : mH} (I : gI a b w) : mC G mX10_save 9 0 0 [.ref a] w (fun r u => ∃ v : Int32, r = .inl (some (.int v)) ∧ hk u b = (11, 0) ∧ mC G mX11_save 4 0 0 [.ref b] u (fun r' u' => r' = .inl (some (.int v)) ∧ gI a b u')) := by
  obtain ⟨hb, i2, i3, i4, i5, i6, i7, i8, i9, i10, i11, i12, i13, i14, i15, i16⟩ := id I
  refine mC_mono (fun r u h => ?_) (tX10_save i3 i8.1)
  obtain ⟨rfl, hx1, hx2, hx3⟩ := h
  refine ⟨_, rfl, ?_⟩
  have T0 : ∀ e F P, oT a b a (a + 1) (a + 18) (a + 35) e F P w u := fun _ _ _ => oT_c hx1 (by omega) (by omega)
  have z := zRef_o (T0 0 [] []) hb i4
  refine ⟨z.1, ?_⟩
  have rr : ∀ r, rwR u b r = rwR w b r := fun r => rwR_o (T0 0 [] []) (by decide) r
  have r1 : hai u (b + 1) = hai w (b + 1) := (T0 0 [] []).ai (by decide) (by decide) (by decide)
  refine mC_mono (fun r' u' h' => ?_) (rX11_save z)
  obtain ⟨rfl, X, g0, g6, fr⟩ := h'
  refine ⟨by rw [r1], ?_⟩
  have T : oT a b a (a + 1) (a + 18) (a + 35) 0 [0, 6] [1] w u' := (T0 0 _ _).tr (oT_r X (by decide))
  have S : oT a b 0 0 0 0 0 [0, 6] [1] u u' := oT_r X (by decide)
  have hrow : ∀ r k, k < 78 → rwR u' b r k = if r = 7 then rwR w b 0 k else rwR w b r k := fun r k hk => by rw [cp_r fr hk, rr, rr]
  have n0 : ∀ k, k < 78 → hai u' (b + 1) k = hai w (b + 1) k := fun k hk => by rw [← rwR_0 (w := u'), hrow 0 k hk, if_neg (by decide), rwR_0]
  have n7 : ∀ k, k < 78 → rwR u' b 7 k = hai w (b + 1) k := fun k hk => by rw [hrow 7 k hk, if_pos rfl, rwR_0]
  obtain ⟨c, h5, hc, hH, okR⟩ := id i9
  have hR : ∀ i, i < c → ∀ k, k < 78 → rwR u' b (i + 1) k = rwR w b (i + 1) k := fun i hi k hk => by rw [hrow (i + 1) k hk, if_neg (by omega)]
  have iS := S.inn (lo := a) (hi := a + 35) (by omega) (by omega) (by omega)
  exact ⟨hb, Nat.le_trans i2 T.1, zBen_o T hb i3, zRef_o T hb i4, by rw [(T.2.1 (b + 22) (by omega)).1]; exact i5, cst_o T (by decide) (by decide) i6, cTxt_o T rfl hb (by omega) (by omega) i7, ⟨sRep_A n0 (sRep_in (T.inn (lo := a + 1) (hi := a + 18) (by omega) (by omega) (by omega)) (by omega) i8.1), aOK_c n0 i8.2⟩, ⟨c, by rw [T.fi (by decide)]; exact h5, hc, hRep_A hR (hRep_in (T.inn (lo := a + 35) (hi := a + 139) (by omega) (by omega) (by omega)) (by omega) hH), fun i hi => aOK_c (hR i hi) (okR i hi)⟩, Or.inr ⟨g6, by rw [iS.hfi (by omega)]; exact hx2, sRep_A n7 (sRep_in iS (by omega) hx3), aOK_c n7 i8.2⟩, cRea_o T hb (by omega) (by omega) (by decide) (by decide) i11, cErr_o T hb (by omega) (by omega) (by decide) i12, cTra_o T hb (by omega) (by omega) (by decide) (by decide) (by decide) i13, cHel_o T hb (by omega) (by omega) (by decide) (by decide) (by decide) i14, cFnd_o T (by omega) (by omega) (by omega) (by decide) (by decide) (by decide) (by decide) i15, cFnd_o T (by omega) (by omega) (by omega) (by decide) (by decide) (by decide) (by decide) i16⟩
theorem agr_rf {A : Nat → Int32} : agr A A := fun _ _ => rfl
theorem zL_c {R : Nat → Int32} {T T' : Nat → Nat → Int32} {N : Nat} (h : zL R T N (N + 1)) (h0 : ∀ t, t ≤ N → T 0 t = T' 0 t) (h1 : ∀ t, t < N → T 1 t = T' 1 t ∧ T 2 t = T' 2 t ∧ T 3 t = T' 3 t ∧ T 4 t = T' 4 t ∧ T 5 t = T' 5 t) : zL R T' N (N + 1) := by
  obtain ⟨g0, g1, g2, g3, g4, g5⟩ := h
  exact ⟨fun j hj => by rw [g0 j hj, h0 j (by omega)], fun j hj => by rw [g1 j hj, (h1 j hj).1], fun j hj => by rw [g2 j hj, (h1 j hj).2.1], fun j hj => by rw [g3 j hj, (h1 j hj).2.2.1], fun j hj => by rw [g4 j hj, (h1 j hj).2.2.2.1], fun j hj => by rw [g5 j hj, (h1 j hj).2.2.2.2]⟩
theorem K_run {G : mG} {a b : Nat} {w : mH} (I : gI a b w) : mC G mX10_run 9 0 0 [.ref a] w (fun r u => ∃ v : Int32, r = .inl (some (.int v)) ∧ hk u b = (11, 0) ∧ mC G mX11_run 5 0 0 [.ref b] u (fun r' u' => r' = .inl (some (.int v)) ∧ gI a b u')) := by
  obtain ⟨hb, i2, i3, i4, i5, i6, i7, i8, i9, i10, i11, i12, i13, i14, i15, i16⟩ := id I
  obtain ⟨N, e13, h1, h200⟩ := aOK_N i8.2
  refine mC_mono (fun r u h => ?_) (tX10_run i3 i8.1 i8.2 e13 h1 h200)
  obtain ⟨rfl, hx1, hx2⟩ := h
  refine ⟨_, rfl, ?_⟩
  have T0 : ∀ e F P, oT a b (a + 150) (a + 165) 0 0 e F P w u := fun _ _ _ => oT_c (hx1.f1 (Nat.le_refl _) (Nat.le_refl _)) (by omega) (by omega)
  have z := zRef_o (T0 0 [] []) hb i4
  refine ⟨z.1, ?_⟩
  have r1 : hai u (b + 1) = hai w (b + 1) := (T0 0 [] []).ai (by decide) (by decide) (by decide)
  have eN : (hai w (b + 1) 13).toNatClampNeg = N := by rw [e13]; exact m_cl (by omega)
  have ok := rOK_of i8.2
  rw [eN, ← r1] at ok
  refine mC_mono (fun r' u' h' => ?_) (rX11_run (N := N) z ok)
  obtain ⟨rfl, X, g0, g25, g26, gz⟩ := h'
  rw [r1] at gz
  have E := rTr_eq i8.2 i8.2.1 agr_rf h200
  refine ⟨by rw [r1]; exact congrArg (fun q => Sum.inl (some (Value.int q))) (E.1 N (Nat.le_refl _)), ?_⟩
  have T : oT a b (a + 150) (a + 165) 0 0 0 [0, 22, 24, 25, 26] [8, 9, 10, 11, 12, 13, 14, 15] w u' := (T0 0 _ _).tr (oT_r X (by decide))
  have S : oT a b 0 0 0 0 0 [0, 22, 24, 25, 26] [8, 9, 10, 11, 12, 13, 14, 15] u u' := oT_r X (by decide)
  exact ⟨hb, Nat.le_trans i2 T.1, zBen_o T hb i3, zRef_o T hb i4, by rw [(T.2.1 (b + 22) (by omega)).1]; exact i5, cst_o T (by decide) (by decide) i6, cTxt_o T rfl hb (by omega) (by omega) i7, cNow_o T hb (by omega) (by omega) (by decide) i8, cHis_o T hb (by omega) (by omega) (by decide) (by decide) i9, cSav_o T hb (by omega) (by omega) (by decide) (fun k _ => by rw [rwR_o T (by decide)]) i10, cRea_o T hb (by omega) (by omega) (by decide) (by decide) i11, cErr_o T hb (by omega) (by omega) (by decide) i12, ⟨N, aT (hai w (b + 1)) (hai w (b + 1)), h200, tRw_in (S.inn (lo := a + 158) (hi := a + 165) (by omega) (by omega) (by omega)) (by omega) hx2, g26, by rw [g25, if_neg (by omega)], fun _ => zL_c gz E.1 E.2, aT_ok i8.2 i8.2.1 agr_rf h200⟩, cHel_o T hb (by omega) (by omega) (by decide) (by decide) (by decide) i14, cFnd_o T (by omega) (by omega) (by omega) (by decide) (by decide) (by decide) (by decide) i15, cFnd_o T (by omega) (by omega) (by omega) (by decide) (by decide) (by decide) (by decide) i16⟩
theorem K_errorPosition {G : mG} {a b : Nat} {w : mH} (I : gI a b w) : mC G mX10_errorPosition 1 0 0 [.ref a] w (fun r u => ∃ v : Int32, r = .inl (some (.int v)) ∧ hk u b = (11, 0) ∧ mC G mX11_errorPosition 1 0 0 [.ref b] u (fun r' u' => r' = .inl (some (.int v)) ∧ gI a b u')) := by
  obtain ⟨hb, i2, i3, i4, i5, i6, i7, i8, i9, i10, i11, i12, i13, i14, i15, i16⟩ := id I
  refine mC_mono (fun r u h => ?_) (qX10_errorPosition (a0_4 := a + 139) (i3.1) (i3.2.2.2.2.1) (i3.2.2.2.2.2.2.2.2.2.2.2.2.2.2.1.1))
  obtain ⟨rfl, rfl⟩ := h
  refine ⟨_, rfl, ?_⟩
  refine ⟨i4.1, ?_⟩
  refine mC_mono (fun r' u' h' => ?_) (qX11_errorPosition i4.1)
  obtain ⟨rfl, rfl⟩ := h'
  refine ⟨?_, gI_rd (oT_r (xF_sfi xF.rf (by decide)) (by decide)) I⟩
  unfold vX11_errorPosition
  rw [e_hfi_sfi, up2_k _ _ _ (by decide), i12]
theorem fBest_c {q q' : Nat → Int64} : ∀ k, (∀ j, j < k → q j = q' j) → fBest q k = fBest q' k
  | 0, _ => rfl
  | k + 1, h => by
    unfold fBest
    rw [fBest_c k (fun j hj => h j (by omega))]
    by_cases q0 : k = 0
    · rw [if_pos q0, if_pos q0]
    · rw [if_neg q0, if_neg q0, h k (by omega), h (fBest q' k) (by have := fBest_lt q' k (by omega); omega)]
theorem cNx_c {q q' : Nat → Int64} {A : Nat → Int32} (h : ∀ m, m < gT A → q m = q' m) {x : Nat → Nat} (hx : xOK A x) (n : Nat) : cNx q A x n = cNx q' A x n := by
  have hg : n % 3 < 3 := Nat.mod_lt _ (by decide)
  unfold cNx bRow
  rw [fBest_c (q := rowQ q A x (n % 3)) (q' := rowQ q' A x (n % 3)) (cG A (n % 3)) (fun v hv => h _ (fx_lt (xs_ok hx hv)))]
theorem cL_c {q q' : Nat → Int64} {A : Nat → Int32} (ok : gOK A) (h : ∀ m, m < gT A → q m = q' m) : ∀ f x n u, xOK A x → cL q A f x n u = cL q' A f x n u
  | 0, x, n, u, _ => rfl
  | f + 1, x, n, u, hx => by
    rw [cL, cL]
    by_cases q0 : u < 3
    · rw [if_pos q0, if_pos q0, cNx_c h hx n, h _ (fx_lt (cNx_ok ok hx)), h _ (fx_lt hx), cL_c ok h f _ _ _ (cNx_ok ok hx)]
    · rw [if_neg q0, if_neg q0]
theorem gT_pos {A : Nat → Int32} (ok : gOK A) : 0 < gT A := by
  unfold gT
  exact Nat.mul_pos (Nat.mul_pos (ok 0 (by decide)).2.1 (ok 1 (by decide)).2.1) (ok 2 (by decide)).2.1
theorem gT_ix {A : Nat → Int32} (ok : gOK A) {m : Nat} (hm : m < gT A) : m / cG A 2 / cG A 1 < cG A 0 ∧ m / cG A 2 % cG A 1 < cG A 1 ∧ m % cG A 2 < cG A 2 := by
  have h1 := (ok 1 (by decide)).2.1
  have h2 := (ok 2 (by decide)).2.1
  refine ⟨?_, Nat.mod_lt _ (by omega), Nat.mod_lt _ (by omega)⟩
  rw [Nat.div_div_eq_div_mul, Nat.div_lt_iff_lt_mul (Nat.mul_pos h2 h1)]
  unfold gT at hm
  rw [Nat.mul_comm (cG A 2), ← Nat.mul_assoc]
  exact hm
theorem fn_in {o : Nat} {u u' : mH} {p i d n : Int32} {c : Int64} (h : fnO u o p i d c n) (k0 : hfi u' o = hfi u o) (k1 : hfl u' o = hfl u o) (k2 : hai u' (o + 1) = hai u (o + 1)) : fnO u' o p i d c n := by
  unfold fnO at h ⊢
  rw [k0, k1, k2]
  exact h
/-- what was found, from both sides -/
theorem fn_join {f o b : Nat} {w u' : mH} {p i d n : Int32} {c : Int64} (hf : f ≤ 1) (K : fnO u' o p i d c n) (R : hai u' (b + 17) = upd (hai w (b + 17)) f 1 ∧ hai u' (b + 18) = upd (upd (upd (hai w (b + 18)) (3 * f) p) (3 * f + 1) i) (3 * f + 2) d ∧ (∀ j, hal u' (b + 19) j = if j = f then c else hal w (b + 19) j) ∧ hai u' (b + 20) = upd (hai w (b + 20)) f n) (hp : 0 ≤ p.toInt ∧ p.toInt ≤ 999) (hi : 0 ≤ i.toInt ∧ i.toInt ≤ 999) (hd : 0 ≤ d.toInt ∧ d.toInt ≤ 999) : cFnd f o b u' := by
  obtain ⟨k1, k2, k3, k4, k5, k6⟩ := K
  obtain ⟨r1, r2, r3, r4⟩ := R
  refine Or.inr ⟨by rw [r1]; unfold upd; rw [if_pos rfl], k1, fun g hg => ?_, by rw [k5, r3, if_pos rfl], by rw [k6, r4]; unfold upd; rw [if_pos rfl]⟩
  have hc : g = 0 ∨ g = 1 ∨ g = 2 := by omega
  rcases hc with e | e | e <;> subst e
  · have e : hai u' (b + 18) (3 * f + 0) = p := by rw [r2]; unfold upd; rw [if_neg (by omega), if_neg (by omega), if_pos (by omega)]
    rw [e, k2]; exact ⟨rfl, hp⟩
  · have e : hai u' (b + 18) (3 * f + 1) = i := by rw [r2]; unfold upd; rw [if_neg (by omega), if_pos rfl]
    rw [e, k3]; exact ⟨rfl, hi⟩
  · have e : hai u' (b + 18) (3 * f + 2) = d := by rw [r2]; unfold upd; rw [if_pos rfl]
    rw [e, k4]; exact ⟨rfl, hd⟩
/-- .. and the other one stays -/
theorem fn_keep {f f' o b : Nat} {w u' : mH} {p i d n : Int32} {c : Int64} (hf : f ≤ 1) (hf' : f' ≤ 1) (hne : f' ≠ f) (k0 : hfi u' o = hfi w o) (k1 : hfl u' o = hfl w o) (k2 : hai u' (o + 1) = hai w (o + 1)) (R : hai u' (b + 17) = upd (hai w (b + 17)) f 1 ∧ hai u' (b + 18) = upd (upd (upd (hai w (b + 18)) (3 * f) p) (3 * f + 1) i) (3 * f + 2) d ∧ (∀ j, hal u' (b + 19) j = if j = f then c else hal w (b + 19) j) ∧ hai u' (b + 20) = upd (hai w (b + 20)) f n) (h : cFnd f' o b w) : cFnd f' o b u' := by
  obtain ⟨r1, r2, r3, r4⟩ := R
  have e17 : hai u' (b + 17) f' = hai w (b + 17) f' := by rw [r1]; exact upd_ne hne
  have e18 : ∀ g, g < 3 → hai u' (b + 18) (3 * f' + g) = hai w (b + 18) (3 * f' + g) := fun g hg => by rw [r2, upd_ne (by omega), upd_ne (by omega), upd_ne (by omega)]
  have e20 : hai u' (b + 20) f' = hai w (b + 20) f' := by rw [r4]; exact upd_ne hne
  unfold cFnd
  rw [e17, k0, k1, k2, r3, if_neg hne, e20]
  rcases h with h | ⟨a1, a2, a3, a4, a5⟩
  · exact Or.inl h
  · exact Or.inr ⟨a1, a2, fun g hg => by rw [e18 g hg]; exact a3 g hg, a4, a5⟩
theorem K_search {G : mG} {a b : Nat} {w : mH} (I : gI a b w) : mC G mX10_search 9 0 0 [.ref a] w (fun r u => ∃ v : Int32, r = .inl (some (.int v)) ∧ hk u b = (11, 0) ∧ mC G mX11_search 8 0 0 [.ref b] u (fun r' u' => r' = .inl (some (.int v)) ∧ gI a b u')) := by
  obtain ⟨hb, i2, i3, i4, i5, i6, i7, i8, i9, i10, i11, i12, i13, i14, i15, i16⟩ := id I
  obtain ⟨N, e13, h1, h200⟩ := aOK_N i8.2
  refine mC_mono (fun r u h => ?_) (tX10_search i3 i8.1 i8.2 e13 h1 h200)
  obtain ⟨rfl, hx1, Q, hQ, hx2⟩ := h
  refine ⟨_, rfl, ?_⟩
  have T0 : ∀ e F P, oT a b (a + 172) (a + 192) 0 0 e F P w u := fun _ _ _ => oT_c (hx1.f1 (Nat.le_refl _) (Nat.le_refl _)) (by omega) (by omega)
  have z := zRef_o (T0 0 [] []) hb i4
  refine ⟨z.1, ?_⟩
  have r1 : hai u (b + 1) = hai w (b + 1) := (T0 0 [] []).ai (by decide) (by decide) (by decide)
  have eN : (hai w (b + 1) 13).toNatClampNeg = N := by rw [e13]; exact m_cl (by omega)
  have ok := rOK_of i8.2
  rw [eN] at ok
  have og := i8.2.2.2.1
  have gd := i8.2.2.2.2.1
  have QE : ∀ m, m < gT (hai w (b + 1)) → Q m = qR (hai w (b + 1)) N m := fun m hm => by rw [hQ m hm, qR_eq i8.2 h200 hm]
  have qn : ∀ m, m < gT (hai w (b + 1)) → 0 ≤ qR (hai w (b + 1)) N m := fun m hm => by rw [qR_eq i8.2 h200 hm]; exact qA_nn i8.2 h200 hm
  have fb := fBest_c _ QE
  have fl := fBest_lt (qR (hai w (b + 1)) N) _ (gT_pos og)
  rw [fb, QE _ fl, fGt_congr _ QE] at hx2
  refine mC_mono (fun r' u' h' => ?_) (rX11_search (N := N) z (by rw [r1]; exact ok) (by rw [r1]; exact og) (by rw [r1]; exact qn))
  rw [r1] at h'
  obtain ⟨rfl, X, g0, hR⟩ := h'
  have R := hR _ rfl
  unfold fdR at R
  rw [(T0 0 [] []).ai (show 1 ≤ 17 by decide) (by decide) (by decide), (T0 0 [] []).ai (show 1 ≤ 18 by decide) (by decide) (by decide), (T0 0 [] []).al (by decide), (T0 0 [] []).ai (show 1 ≤ 20 by decide) (by decide) (by decide)] at R
  refine ⟨rfl, ?_⟩
  have T : oT a b (a + 172) (a + 192) 0 0 0 [0, 22, 24] [8, 9, 10, 11, 12, 13, 14, 17, 18, 19, 20, 21] w u' := (T0 0 _ _).tr (oT_r X (by decide))
  have S : oT a b 0 0 0 0 0 [0, 22, 24] [8, 9, 10, 11, 12, 13, 14, 17, 18, 19, 20, 21] u u' := oT_r X (by decide)
  obtain ⟨x0, x1, x2⟩ := gT_ix og fl
  have iS := S.inn (lo := a + 190) (hi := a + 192) (by omega) (by omega) (by omega)
  have iT := T.inn (lo := a + 192) (hi := a + 194) (by omega) (by omega) (by omega)
  have K := fn_in hx2 (iS.hfi (by omega)) (iS.hfl (by omega)) (iS.hai (by omega))
  exact ⟨hb, Nat.le_trans i2 T.1, zBen_o T hb i3, zRef_o T hb i4, by rw [(T.2.1 (b + 22) (by omega)).1]; exact i5, cst_o T (by decide) (by decide) i6, cTxt_o T rfl hb (by omega) (by omega) i7, cNow_o T hb (by omega) (by omega) (by decide) i8, cHis_o T hb (by omega) (by omega) (by decide) (by decide) i9, cSav_o T hb (by omega) (by omega) (by decide) (fun k _ => by rw [rwR_o T (by decide)]) i10, cRea_o T hb (by omega) (by omega) (by decide) (by decide) i11, cErr_o T hb (by omega) (by omega) (by decide) i12, cTra_o T hb (by omega) (by omega) (by decide) (by decide) (by decide) i13, cHel_o T hb (by omega) (by omega) (by decide) (by decide) (by decide) i14, fn_join (by decide) K R (gVal_b gd og (by decide) x0) (gVal_b gd og (by decide) x1) (gVal_b gd og (by decide) x2), fn_keep (by decide) (by decide) (by decide) (iT.hfi (by omega)) (iT.hfl (by omega)) (iT.hai (by omega)) R i16⟩
theorem K_climb {G : mG} {a b : Nat} {w : mH} (I : gI a b w) : mC G mX10_climb 9 0 0 [.ref a] w (fun r u => ∃ v : Int32, r = .inl (some (.int v)) ∧ hk u b = (11, 0) ∧ mC G mX11_climb 8 0 0 [.ref b] u (fun r' u' => r' = .inl (some (.int v)) ∧ gI a b u')) := by
  obtain ⟨hb, i2, i3, i4, i5, i6, i7, i8, i9, i10, i11, i12, i13, i14, i15, i16⟩ := id I
  obtain ⟨N, e13, h1, h200⟩ := aOK_N i8.2
  refine mC_mono (fun r u h => ?_) (tX10_climb i3 i8.1 i8.2 e13 h1 h200)
  obtain ⟨Q, hQ, rfl, hx1, hx2⟩ := h
  refine ⟨_, rfl, ?_⟩
  have T0 : ∀ e F P, oT a b (a + 172) (a + 190) (a + 192) (a + 194) e F P w u := fun _ _ _ => oT_c hx1 (by omega) (by omega)
  have z := zRef_o (T0 0 [] []) hb i4
  refine ⟨z.1, ?_⟩
  have r1 : hai u (b + 1) = hai w (b + 1) := (T0 0 [] []).ai (by decide) (by decide) (by decide)
  have eN : (hai w (b + 1) 13).toNatClampNeg = N := by rw [e13]; exact m_cl (by omega)
  have ok := rOK_of i8.2
  rw [eN] at ok
  have og := i8.2.2.2.1
  have gd := i8.2.2.2.2.1
  have QE : ∀ m, m < gT (hai w (b + 1)) → Q m = qR (hai w (b + 1)) N m := fun m hm => by rw [hQ m hm, qR_eq i8.2 h200 hm]
  have qn : ∀ m, m < gT (hai w (b + 1)) → 0 ≤ qR (hai w (b + 1)) N m := fun m hm => by rw [qR_eq i8.2 h200 hm]; exact qA_nn i8.2 h200 hm
  have x00 : xOK (hai w (b + 1)) zx := fun g hg => (og g hg).2.1
  have cl := cL_c og QE 648 zx 0 0 x00
  have xo := cL_ok (q := qR (hai w (b + 1)) N) og 648 zx 0 0 x00
  rw [cl] at hx2 ⊢
  have hx3 := hx2 _ rfl
  rw [QE _ (fx_lt xo), fGt_congr _ QE] at hx3
  refine mC_mono (fun r' u' h' => ?_) (rX11_climb (N := N) z r1 ok og qn)
  obtain ⟨rfl, X, g0, R⟩ := h'
  unfold fd1 fdR at R
  rw [(T0 0 [] []).ai (show 1 ≤ 17 by decide) (by decide) (by decide), (T0 0 [] []).ai (show 1 ≤ 18 by decide) (by decide) (by decide), (T0 0 [] []).al (by decide), (T0 0 [] []).ai (show 1 ≤ 20 by decide) (by decide) (by decide)] at R
  refine ⟨rfl, ?_⟩
  have T : oT a b (a + 172) (a + 190) (a + 192) (a + 194) 0 [0, 22, 24] [8, 9, 10, 11, 12, 13, 14, 17, 18, 19, 20, 21] w u' := (T0 0 _ _).tr (oT_r X (by decide))
  have S : oT a b 0 0 0 0 0 [0, 22, 24] [8, 9, 10, 11, 12, 13, 14, 17, 18, 19, 20, 21] u u' := oT_r X (by decide)
  have iS := S.inn (lo := a + 192) (hi := a + 194) (by omega) (by omega) (by omega)
  have iT := T.inn (lo := a + 190) (hi := a + 192) (by omega) (by omega) (by omega)
  have K := fn_in hx3 (iS.hfi (by omega)) (iS.hfl (by omega)) (iS.hai (by omega))
  exact ⟨hb, Nat.le_trans i2 T.1, zBen_o T hb i3, zRef_o T hb i4, by rw [(T.2.1 (b + 22) (by omega)).1]; exact i5, cst_o T (by decide) (by decide) i6, cTxt_o T rfl hb (by omega) (by omega) i7, cNow_o T hb (by omega) (by omega) (by decide) i8, cHis_o T hb (by omega) (by omega) (by decide) (by decide) i9, cSav_o T hb (by omega) (by omega) (by decide) (fun k _ => by rw [rwR_o T (by decide)]) i10, cRea_o T hb (by omega) (by omega) (by decide) (by decide) i11, cErr_o T hb (by omega) (by omega) (by decide) i12, cTra_o T hb (by omega) (by omega) (by decide) (by decide) (by decide) i13, cHel_o T hb (by omega) (by omega) (by decide) (by decide) (by decide) i14, fn_keep (by decide) (by decide) (by decide) (iT.hfi (by omega)) (iT.hfl (by omega)) (iT.hai (by omega)) R i15, fn_join (by decide) K R (gVal_b gd og (by decide) (xo 0 (by decide))) (gVal_b gd og (by decide) (xo 1 (by decide))) (gVal_b gd og (by decide) (xo 2 (by decide)))⟩
