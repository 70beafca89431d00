/-! the top of the class: how a call ends -/
def tpO (e1 e2 e3 : String) (t : Int32) (v : Value) (Qb Q : mH → Prop) : mF := fun o w' => (t = 0 → o = .inl (some v) ∧ Q w') ∧ (¬ t = 0 → o = .inr (if t = 1 then e1 else if t = 2 then e2 else e3) ∧ ∃ (w1 : mH) (n : Nat), Qb w1 ∧ hN w1 ≤ n ∧ w' = snn w1 n)
section
variable {e1 e2 e3 : String} {t : Int32} {v : Value} {Qb Q : mH → Prop} {w w' : mH}
theorem tp_1 (h : t = 1) (q : Qb w) : ∀ n, hN w ≤ n → tpO e1 e2 e3 t v Qb Q (.inr e1) (snn w n) := fun n hn => ⟨fun h' => by rw [h] at h'; exact absurd h' (by decide), fun _ => ⟨by rw [if_pos h], w, n, q, hn, rfl⟩⟩
theorem tp_2 (h : t = 2) (q : Qb w) : ∀ n, hN w ≤ n → tpO e1 e2 e3 t v Qb Q (.inr e2) (snn w n) := fun n hn => ⟨fun h' => by rw [h] at h'; exact absurd h' (by decide), fun _ => ⟨by rw [h]; rfl, w, n, q, hn, rfl⟩⟩
theorem tp_3 (h : t = 3) (q : Qb w) : ∀ n, hN w ≤ n → tpO e1 e2 e3 t v Qb Q (.inr e3) (snn w n) := fun n hn => ⟨fun h' => by rw [h] at h'; exact absurd h' (by decide), fun _ => ⟨by rw [h]; rfl, w, n, q, hn, rfl⟩⟩
theorem tp_ok (h : t = 0) (q : Q w') : tpO e1 e2 e3 t v Qb Q (.inl (some v)) w' := ⟨fun _ => ⟨rfl, q⟩, fun h' => absurd h h'⟩
theorem tp_okv {v2 : Value} (h : t = 0) (e : v2 = v) (q : Q w') : tpO e1 e2 e3 t v Qb Q (.inl (some v2)) w' := by subst e; exact tp_ok h q
end
theorem gRep_A {w : mH} {a : Nat} {A B : Nat → Int32} (h : ∀ k, 20 ≤ k → k < 29 → B k = A k) (z : gRep w a A) : gRep w a B := fun g hg => by
  obtain ⟨z1, z2, z3⟩ := z g hg
  rw [h _ (by omega) (by omega), h _ (by omega) (by omega), h _ (by omega) (by omega)]
  exact ⟨z1, z2, z3⟩
theorem tRep_A {w : mH} {a : Nat} {A B : Nat → Int32} (h : ∀ k, 29 ≤ k → k < 40 → B k = A k) (z : tRep w a A) : tRep w a B := by
  obtain ⟨n, h5, z1, z2, z3⟩ := z
  refine ⟨n, h5, by rw [h 29 (by decide) (by decide)]; exact z1, z2, fun i hi => ?_⟩
  rw [h _ (by omega) (by omega), h _ (by omega) (by omega)]
  exact z3 i hi
theorem kRep_A {w : mH} {a : Nat} {A B : Nat → Int32} (h : ∀ k, 40 ≤ k → k < 78 → B k = A k) (z : kRep w a A) : kRep w a B := by
  obtain ⟨n, m, h8, h4, z1, z2, z3, z4, z5, z6⟩ := z
  refine ⟨n, m, h8, h4, by rw [h 40 (by decide) (by decide)]; exact z1, z2, by rw [h 65 (by decide) (by decide)]; exact z3, z4, fun i hi => ?_, fun i hi => ?_⟩
  · rw [h (41 + 3 * i) (by omega) (by omega), h (41 + 3 * i + 1) (by omega) (by omega), h (41 + 3 * i + 2) (by omega) (by omega)]
    exact z5 i hi
  · rw [h (66 + 3 * i) (by omega) (by omega), h (66 + 3 * i + 1) (by omega) (by omega), h (66 + 3 * i + 2) (by omega) (by omega)]
    exact z6 i hi
theorem sRep_A {w : mH} {a : Nat} {A B : Nat → Int32} (h : ∀ k, k < 78 → B k = A k) (z : sRep w a A) : sRep w a B := by
  obtain ⟨z1, z2, z3, z4, z5⟩ := z
  exact ⟨fun k hk => by rw [h k (by omega)]; exact z1 k hk, fun k hk => by rw [h _ (by omega)]; exact z2 k hk, gRep_A (fun k _ hk => h k (by omega)) z3, tRep_A (fun k _ hk => h k (by omega)) z4, kRep_A (fun k _ hk => h k (by omega)) z5⟩
theorem sRep_set {w w' : mH} {a s : Nat} {v : Int32} {A : Nat → Int32} (z : sRep w a A) (hs : s < 15) (e : w' = sai w (a + 1) s v) : sRep w' a (upd A s v) := by
  have f : mFr (a + 1) (a + 2) w w' := by rw [e]; exact mFr_sai mFr.rf (Nat.le_refl _) (by omega)
  obtain ⟨z1, z2, z3, z4, z5⟩ := z
  refine ⟨fun k hk => ?_, fun k hk => ?_, gRep_A (fun k h _ => upd_ne (by omega)) (gRep_fr f (by omega) z3), tRep_A (fun k h _ => upd_ne (by omega)) (tRep_fr f (by omega) z4), kRep_A (fun k h _ => upd_ne (by omega)) (kRep_fr f (by omega) z5)⟩
  · rw [e, e_hai_sai, up2_row]
    unfold upd
    by_cases q : k = s
    · rw [if_pos q, if_pos q]
    · rw [if_neg q, if_neg q]; exact z1 k hk
  · rw [f.hai (by omega), upd_ne (by omega)]
    exact z2 k hk
theorem sRep_wei {w w' : mH} {a s : Nat} {v : Int32} {A : Nat → Int32} (z : sRep w a A) (hs : s < 5) (e : w' = sai w (a + 2) s v) : sRep w' a (upd A (15 + s) v) := by
  have f : mFr (a + 2) (a + 3) w w' := by rw [e]; exact mFr_sai mFr.rf (Nat.le_refl _) (by omega)
  obtain ⟨z1, z2, z3, z4, z5⟩ := z
  refine ⟨fun k hk => ?_, fun k hk => ?_, gRep_A (fun k h _ => upd_ne (by omega)) (gRep_fr f (by omega) z3), tRep_A (fun k h _ => upd_ne (by omega)) (tRep_fr f (by omega) z4), kRep_A (fun k h _ => upd_ne (by omega)) (kRep_fr f (by omega) z5)⟩
  · rw [f.hai (by omega), upd_ne (by omega)]
    exact z1 k hk
  · rw [e, e_hai_sai, up2_row]
    unfold upd
    by_cases q : k = s
    · rw [if_pos q, if_pos (by omega)]
    · rw [if_neg q, if_neg (by omega)]; exact z2 k hk
theorem sRep_tab {w w' : mH} {a : Nat} {A A' : Nat → Int32} (z : sRep w a A) (f : mFr (a + 7) (a + 10) w w') (t : tRep w' (a + 7) A') (h : ∀ k, k < 29 ∨ 40 ≤ k → A' k = A k) : sRep w' a A' := by
  obtain ⟨z1, z2, z3, z4, z5⟩ := z
  refine ⟨fun k hk => ?_, fun k hk => ?_, gRep_A (fun k h1 h2 => h k (Or.inl (by omega))) (gRep_fr f (by omega) z3), t, kRep_A (fun k h1 h2 => h k (Or.inr h1)) (kRep_fr f (by omega) z5)⟩
  · rw [f.hai (by omega), h k (by omega)]; exact z1 k hk
  · rw [f.hai (by omega), h _ (by omega)]; exact z2 k hk
theorem sRep_trk {w w' : mH} {a : Nat} {A A' : Nat → Int32} (z : sRep w a A) (f : mFr (a + 10) (a + 17) w w') (t : kRep w' (a + 10) A') (h : ∀ k, k < 40 → A' k = A k) : sRep w' a A' := by
  obtain ⟨z1, z2, z3, z4, z5⟩ := z
  refine ⟨fun k hk => ?_, fun k hk => ?_, gRep_A (fun k h1 h2 => h k (by omega)) (gRep_fr f (by omega) z3), tRep_A (fun k h1 h2 => h k (by omega)) (tRep_fr f (by omega) z4), t⟩
  · rw [f.hai (by omega), h k (by omega)]; exact z1 k hk
  · rw [f.hai (by omega), h _ (by omega)]; exact z2 k hk
theorem sRep_grd {w w1 w2 w' : mH} {a g : Nat} {x y v : Int32} {A : Nat → Int32} (z : sRep w a A) (hg : g < 3) (e1 : w1 = sai w (a + 4) g x) (e2 : w2 = sai w1 (a + 5) g y) (e : w' = sai w2 (a + 6) g v) : sRep w' a (upG A g x y v) := by
  have f : mFr (a + 4) (a + 7) w w' := by rw [e, e2, e1]; exact mFr_sai (mFr_sai (mFr_sai mFr.rf (by omega) (by omega)) (by omega) (by omega)) (by omega) (by omega)
  have o : ∀ k, ¬ (20 ≤ k ∧ k < 29) → upG A g x y v k = A k := fun k hk => by unfold upG; rw [upd_ne (by omega), upd_ne (by omega), upd_ne (by omega)]
  obtain ⟨z1, z2, z3, z4, z5⟩ := z
  refine ⟨fun k hk => ?_, fun k hk => ?_, fun j hj => ?_, tRep_A (fun k h _ => o k (by omega)) (tRep_fr f (by omega) z4), kRep_A (fun k h _ => o k (by omega)) (kRep_fr f (by omega) z5)⟩
  · rw [f.hai (by omega), o k (by omega)]; exact z1 k hk
  · rw [f.hai (by omega), o _ (by omega)]; exact z2 k hk
  · obtain ⟨q1, q2, q3⟩ := z3 j hj
    have r1 : hai w' (a + 3 + 1) j = if j = g then x else hai w (a + 3 + 1) j := by
      rw [e, e_hai_sai, up2_a _ _ _ (by omega), e2, e_hai_sai, up2_a _ _ _ (by omega), e1, e_hai_sai]; unfold up2; simp
    have r2 : hai w' (a + 3 + 2) j = if j = g then y else hai w (a + 3 + 2) j := by
      rw [e, e_hai_sai, up2_a _ _ _ (by omega), e2, e_hai_sai]; unfold up2; rw [e1, e_hai_sai, up2_a _ _ _ (by omega)]; simp
    have r3 : hai w' (a + 3 + 3) j = if j = g then v else hai w (a + 3 + 3) j := by
      rw [e, e_hai_sai]; unfold up2; rw [e2, e_hai_sai, up2_a _ _ _ (by omega), e1, e_hai_sai, up2_a _ _ _ (by omega)]; simp
    rw [r1, r2, r3, q1, q2, q3]
    unfold upG upd
    by_cases q : j = g
    · subst q
      refine ⟨?_, ?_, ?_⟩
      · rw [if_pos rfl, if_neg (by omega), if_neg (by omega), if_pos rfl]
      · rw [if_pos rfl, if_neg (by omega), if_pos rfl]
      · rw [if_pos rfl, if_pos rfl]
    · rw [if_neg q, if_neg q, if_neg q]
      refine ⟨?_, ?_, ?_⟩
      · rw [if_neg (by omega), if_neg (by omega), if_neg (by omega)]
      · rw [if_neg (by omega), if_neg (by omega), if_neg (by omega)]
      · rw [if_neg (by omega), if_neg (by omega), if_neg (by omega)]
theorem fAt_sp {A : Nat → Int32} {p : Int32} (h5 : nPt A ≤ 5) : (fAt A p < 0 ∧ ∀ t, t < nPt A → rX A t ≠ p) ∨ ∃ q, q < nPt A ∧ rX A q = p ∧ fAt A p = nI q := by
  rcases fIdx_sp (X := rX A) (x := p) (nPt A) 0 with ⟨h1, h2⟩ | ⟨q, _, h2, h3, h4⟩
  · left
    refine ⟨by unfold fAt; rw [h1]; decide, fun t ht => h2 t (Nat.zero_le _) (by omega)⟩
  · right
    exact ⟨q, by omega, h3, h4⟩
theorem put_o {A : Nat → Int32} {p v : Int32} (h5 : nPt A ≤ 5) (hr : nPt A < 5 ∨ ¬ fAt A p < 0) : ∀ k, k < 29 ∨ 40 ≤ k → fPut A p v k = A k := fun k hk => by
  unfold fPut
  by_cases q : fAt A p < 0
  · rw [if_pos q]
    have h4 : nPt A < 5 := hr.elim id (fun h => absurd q h)
    obtain ⟨s1, _, _, _, s5⟩ := fIns_sp (p := p) (nPt A) (upd A 29 (A 29 + 1))
    rw [in2_o (by omega), s5 k (by omega), upd_ne (by omega)]
  · rw [if_neg q]
    rcases fAt_sp (p := p) h5 with ⟨h, _⟩ | ⟨j, hj, _, h⟩
    · exact absurd h q
    · rw [h, m_cl (by omega), in2_o (by omega)]
theorem cut_o {A : Nat → Int32} {j : Nat} (h5 : nPt A ≤ 5) (hj : j < nPt A) : ∀ k, k < 29 ∨ 40 ≤ k → fCut A j k = A k := fun k hk => by
  unfold fCut
  rw [upd_ne (by omega), (fDel_sp (nPt A - 1 - j) j A).2.2 k (by omega)]
theorem qX5_indexOf' {G : mG} {w : mH} {a0 : Nat} {x1 : Int32} {A : Nat → Int32} (z : zTab w a0) (h : tRep w a0 A) : mC G mX5_indexOf 1 0 0 [.ref a0, .int x1] w (mEq (.inl (some (.int (fAt A x1)))) w) := by
  have q := qX5_indexOf (G := G) (x1 := x1) (tRep_at z h)
  rw [tRep_idx h] at q
  exact q
theorem rX5_removeAt' {G : mG} {w : mH} {a0 : Nat} {x1 : Int32} {A : Nat → Int32} (z0 : zTab w a0) (h : tRep w a0 A) (hx : x1 = nI x1.toNatClampNeg) (hk : x1.toNatClampNeg < nPt A) : mC G mX5_removeAt 2 0 0 [.ref a0, .int x1] w (mP none (fun w' => mFr a0 (a0 + 3) w w' ∧ tRep w' a0 (fCut A x1.toNatClampNeg))) := by
  have q := rX5_removeAt (G := G) z0 h hk
  rw [← hx] at q
  exact q
/-- a change of the bench: history, the setup now -/
def bnO (w w' : mH) (a c : Nat) (R : Nat → Nat → Int32) (A A' : Nat → Int32) : Prop := mF2 (a + 1) (a + 18) (a + 35) (a + 139) w w' ∧ hRep w' (a + 35) (min (c + 1) 6) (hPush R c A) ∧ sRep w' (a + 1) A'
theorem bnO_of {w w1 w' : mH} {a c : Nat} {R : Nat → Nat → Int32} {A A' : Nat → Int32} (q : mFr (a + 35) (a + 35 + 104) w w1 ∧ hRep w1 (a + 35) (min (c + 1) 6) (hPush R c A)) (f : mFr (a + 1) (a + 18) w1 w') (s : sRep w' (a + 1) A') : bnO w w' a c R A A' := ⟨(q.1.f2 (by omega) (by omega)).tr (f.f1 (by omega) (by omega)), hRep_fr f (by omega) q.2, s⟩

abbrev mX10_set : mM := (yX10_set, cX10_set, 4, (some .int), [])
theorem u716 : (Cond.methodLink "LineFollowerBench" 78 ⟨"LineFollowerBench", "isWithin", "(III)Z"⟩ : Cond) ∈ mTs := mTs_in 716 (by decide +kernel) (by decide +kernel)
theorem l_X10_78 : mLinkS "LineFollowerBench" 78 3 mX10_isWithin := ⟨⟨by decide, by decide, by decide +kernel⟩, co_X10_isWithin, u716, u523⟩
theorem u787 : (Cond.fieldLink "LineFollowerBench" 89 "LineFollowerBench" "SETTING_LEAST" "[I" : Cond) ∈ mTs := mTs_in 787 (by decide +kernel) (by decide +kernel)
theorem u789 : (Cond.fieldLink "LineFollowerBench" 93 "LineFollowerBench" "SETTING_MOST" "[I" : Cond) ∈ mTs := mTs_in 789 (by decide +kernel) (by decide +kernel)
theorem u450 : (Cond.fieldLink "LineFollowerBench" 26 "LineFollowerBench" "history" "LLineFollowerBench$History;" : Cond) ∈ mTs := mTs_in 450 (by decide +kernel) (by decide +kernel)
theorem f_X10_26 : mFld "LineFollowerBench" 26 10 3 := ⟨RX10, TX10, 12, "LineFollowerBench", rfl, by decide, in_X10, u450, Or.inl rfl, by decide⟩
theorem u447 : (Cond.fieldLink "LineFollowerBench" 12 "LineFollowerBench" "now" "LLineFollowerBench$Setup;" : Cond) ∈ mTs := mTs_in 447 (by decide +kernel) (by decide +kernel)
theorem f_X10_12 : mFld "LineFollowerBench" 12 10 0 := ⟨RX10, TX10, 12, "LineFollowerBench", rfl, by decide, in_X10, u447, Or.inl rfl, by decide⟩
theorem u810 : (Cond.code ⟨"LineFollowerBench$History", "remember", "(LLineFollowerBench$Setup;)V"⟩ prog_4_method_2_code 3 (none : Option ClassFile.FieldType) : Cond) ∈ mTs := mTs_in 810 (by decide +kernel) (by decide +kernel)
theorem co_X2_remember : mCode mX2_remember := ⟨u810, u75, by decide⟩
theorem u807 : (Cond.methodLink "LineFollowerBench" 101 ⟨"LineFollowerBench$History", "remember", "(LLineFollowerBench$Setup;)V"⟩ : Cond) ∈ mTs := mTs_in 807 (by decide +kernel) (by decide +kernel)
theorem u808 : (Cond.instanceMethod ⟨"LineFollowerBench$History", "remember", "(LLineFollowerBench$Setup;)V"⟩ : Cond) ∈ mTs := mTs_in 808 (by decide +kernel) (by decide +kernel)
theorem u809 : (Cond.selects "LineFollowerBench$History" ⟨"LineFollowerBench$History", "remember", "(LLineFollowerBench$Setup;)V"⟩ ⟨"LineFollowerBench$History", "remember", "(LLineFollowerBench$Setup;)V"⟩ : Cond) ∈ mTs := mTs_in 809 (by decide +kernel) (by decide +kernel)
theorem l_X10_101 : mLinkV "LineFollowerBench" 101 1 mX2_remember := ⟨⟨by decide, by decide, by decide +kernel⟩, co_X2_remember, u807, u808, u809⟩
theorem u203 : (Cond.fieldLink "LineFollowerBench" 105 "LineFollowerBench$Setup" "settings" "[I" : Cond) ∈ mTs := mTs_in 203 (by decide +kernel) (by decide +kernel)
theorem f_X10_105 : mFld "LineFollowerBench" 105 3 0 := ⟨RX3, TX3, 5, "LineFollowerBench$Setup", rfl, by decide, in_X3, u203, Or.inl rfl, by decide⟩
theorem u791 : (Cond.classLink "LineFollowerBench" 96 "java/lang/IllegalArgumentException" : Cond) ∈ mTs := mTs_in 791 (by decide +kernel) (by decide +kernel)
theorem u90 : (Cond.initialized "java/lang/IllegalArgumentException" : Cond) ∈ mTs := mTs_in 90 (by decide +kernel) (by decide +kernel)
theorem th_96_100 : mThr "LineFollowerBench" 96 100 "java/lang/IllegalArgumentException" ["java/lang/RuntimeException", "java/lang/Exception"] := ⟨by decide +kernel, by decide +kernel, u791, u90, by decide +kernel, by decide⟩
theorem u717 : (Cond.classLink "LineFollowerBench" 82 "java/lang/IndexOutOfBoundsException" : Cond) ∈ mTs := mTs_in 717 (by decide +kernel) (by decide +kernel)
theorem u89 : (Cond.initialized "java/lang/IndexOutOfBoundsException" : Cond) ∈ mTs := mTs_in 89 (by decide +kernel) (by decide +kernel)
theorem th_82_86 : mThr "LineFollowerBench" 82 86 "java/lang/IndexOutOfBoundsException" ["java/lang/RuntimeException", "java/lang/Exception"] := ⟨by decide +kernel, by decide +kernel, u717, u89, by decide +kernel, by decide⟩
set_option maxHeartbeats 4000000 in
set_option maxRecDepth 100000 in
theorem gX10_set_0 {G : mG} {w : mH} {Φ : mF} {a0 : Nat} {x1 x2 : Int32} {c : Nat} {R : Nat → Nat → Int32} {A : Nat → Int32} {a0_3 a0_0 a0_0_0 n_a0_0_0 : Nat} (s1 : (¬ ((vX10_isWithin x1 0 14) = 0)) → vp_in x1 15) (h1 : hk w a0 = (10, 0)) (h2 : hfr w a0 3 = some a0_3) (h3 : hfr w a0 0 = some a0_0) (h4 : hk w a0_3 = (2, 0)) (h5 : zHis w a0_3) (h6 : zSet w a0_0) (s2 : (¬ ((vX10_isWithin x1 0 14) = 0)) → (¬ ((vX10_isWithin x2 ((mSv 1).getD x1.toNatClampNeg 0) ((mSv 2).getD x1.toNatClampNeg 0)) = 0)) → a0_0 + 17 ≤ a0_3 ∨ a0_3 + 104 ≤ a0_0) (s3 : (¬ ((vX10_isWithin x1 0 14) = 0)) → (¬ ((vX10_isWithin x2 ((mSv 1).getD x1.toNatClampNeg 0) ((mSv 2).getD x1.toNatClampNeg 0)) = 0)) → hRep w a0_3 c R) (s4 : (¬ ((vX10_isWithin x1 0 14) = 0)) → (¬ ((vX10_isWithin x2 ((mSv 1).getD x1.toNatClampNeg 0) ((mSv 2).getD x1.toNatClampNeg 0)) = 0)) → sRep w a0_0 A) (h7 : hk w a0_0 = (3, 0)) (h8 : hfr w a0_0 0 = some a0_0_0) (h9 : hk w a0_0_0 = (16, n_a0_0_0)) (s5 : (¬ ((vX10_isWithin x1 0 14) = 0)) → (¬ ((vX10_isWithin x2 ((mSv 1).getD x1.toNatClampNeg 0) ((mSv 2).getD x1.toNatClampNeg 0)) = 0)) → ∀ w1 : mH, (mFr a0_3 (a0_3 + 104) w w1 ∧ hRep w1 a0_3 (min (c + 1) 6) (hPush R c A)) → vp_in x1 n_a0_0_0) (k1 : (¬ ((vX10_isWithin x1 0 14) = 0)) → (¬ ((vX10_isWithin x2 ((mSv 1).getD x1.toNatClampNeg 0) ((mSv 2).getD x1.toNatClampNeg 0)) = 0)) → ∀ w1 : mH, (mFr a0_3 (a0_3 + 104) w w1 ∧ hRep w1 a0_3 (min (c + 1) 6) (hPush R c A)) → ∀ w2 : mH, (w2 = sai w1 a0_0_0 x1.toNatClampNeg x2) → Φ (.inl (some (.int (hai w1 a0_0_0 x1.toNatClampNeg)))) w2) (k2 : (¬ ((vX10_isWithin x1 0 14) = 0)) → ((vX10_isWithin x2 ((mSv 1).getD x1.toNatClampNeg 0) ((mSv 2).getD x1.toNatClampNeg 0)) = 0) → ∀ n, hN w ≤ n → Φ (.inr "java/lang/IllegalArgumentException") (snn w n)) (k3 : ((vX10_isWithin x1 0 14) = 0) → ∀ n, hN w ≤ n → Φ (.inr "java/lang/IndexOutOfBoundsException") (snn w n)) : mW G mX10_set 9 1 6 0 [(0, .ref a0), (1, .int x1), (2, .int x2)] [] w Φ := by
  refine mW_iload_n (j := 1) dX10_set_0 rfl rfl ?_
  refine mW_iconst (v := 0) dX10_set_1 (by decide) ?_
  refine mW_bipush (v := 14) dX10_set_2 (by decide) ?_
  refine mW_callSe (As := [.int x1, .int 0, .int 14]) (rest := []) (kc2 := 1) (ks2 := 6) dX10_set_4 l_X10_78 rfl (qX10_isWithin (w := w) (x0 := x1) (x1 := 0) (x2 := 14)) (Nat.le_of_ble_eq_true rfl) (by decide) rfl rfl ?_
  refine mW_if_ne (tgt := 20) dX10_set_7 (by decide) (fun c1 => ?_) (fun c1 => ?_)
  · refine mW_iload_n (j := 2) dX10_set_20 rfl rfl ?_
    refine mW_getsS (i := 1) dX10_set_21 (by decide) u787 ?_
    refine mW_iload_n (j := 1) dX10_set_24 rfl rfl ?_
    refine mW_saldJ (i := 1) dX10_set_25 (by decide) (s1 c1) rfl ?_
    refine mW_getsS (i := 2) dX10_set_26 (by decide) u789 ?_
    refine mW_iload_n (j := 1) dX10_set_29 rfl rfl ?_
    refine mW_saldJ (i := 2) dX10_set_30 (by decide) (s1 c1) rfl ?_
    refine mW_callSe (As := [.int x2, .int ((mSv 1).getD x1.toNatClampNeg 0), .int ((mSv 2).getD x1.toNatClampNeg 0)]) (rest := []) (kc2 := 1) (ks2 := 6) dX10_set_31 l_X10_78 rfl (qX10_isWithin (w := w) (x0 := x2) (x1 := (mSv 1).getD x1.toNatClampNeg 0) (x2 := (mSv 2).getD x1.toNatClampNeg 0)) (Nat.le_of_ble_eq_true rfl) (by decide) rfl rfl ?_
    refine mW_if_ne (tgt := 47) dX10_set_34 (by decide) (fun c2 => ?_) (fun c2 => ?_)
    · refine mW_aload_n (j := 0) dX10_set_47 rfl rfl ?_
      refine mW_getR dX10_set_48 f_X10_26 h1 rfl h2 ?_
      refine mW_aload_n (j := 0) dX10_set_51 rfl rfl ?_
      refine mW_getR dX10_set_52 f_X10_12 h1 rfl h3 ?_
      refine mW_callV (As := [.ref a0_0]) (rest := []) (kc2 := 1) (ks2 := 6) dX10_set_55 l_X10_101 rfl h4 rfl (by decide) (rX2_remember (w := w) (a0 := a0_3) (a1 := a0_0) h5 h6 (s2 c1 c2) (s3 c1 c2) (s4 c1 c2)) (Nat.le_of_ble_eq_true rfl) (by decide) rfl rfl mP_x (mP_k (fun w1 q1 => ?_))
      refine mW_aload_n (j := 0) dX10_set_58 rfl rfl ?_
      refine mW_getR dX10_set_59 f_X10_12 (s2k (mS2.of q1.1.1) h1) rfl (s2r (mS2.of q1.1.1) h3) ?_
      refine mW_getR dX10_set_62 f_X10_105 (s2k (mS2.of q1.1.1) h7) rfl (s2r (mS2.of q1.1.1) h8) ?_
      refine mW_iload_n (j := 1) dX10_set_65 rfl rfl ?_
      refine mW_ialdJ dX10_set_66 (s2k (mS2.of q1.1.1) h9) (s5 c1 c2 w1 q1) rfl ?_
      refine mW_istore_n (lv2 := [(3, .int (hai w1 a0_0_0 x1.toNatClampNeg)), (0, .ref a0), (1, .int x1), (2, .int x2)]) dX10_set_67 rfl (by decide) rfl ?_
      refine mW_aload_n (j := 1) dX10_set_68 rfl rfl ?_
      refine mW_getR dX10_set_69 f_X10_12 (s2k (mS2.of q1.1.1) h1) rfl (s2r (mS2.of q1.1.1) h3) ?_
      refine mW_getR dX10_set_72 f_X10_105 (s2k (mS2.of q1.1.1) h7) rfl (s2r (mS2.of q1.1.1) h8) ?_
      refine mW_iload_n (j := 2) dX10_set_75 rfl rfl ?_
      refine mW_iload_n (j := 3) dX10_set_76 rfl rfl ?_
      refine mW_iastJ dX10_set_77 (s2k (mS2.of q1.1.1) h9) (s5 c1 c2 w1 q1) rfl ?_
      refine mW_nm (fun w2 e1 => ?_)
      refine mW_iload_n (j := 0) dX10_set_78 rfl rfl ?_
      exact mW_iret dX10_set_79 rfl (k1 c1 c2 w1 q1 w2 e1)
    · exact mW_thr (text := "the value is out of range") (names := ["java/lang/RuntimeException", "java/lang/Exception"]) dX10_set_37 dX10_set_40 dX10_set_41 dX10_set_43 dX10_set_46 th_96_100 (by decide +kernel) rfl (Nat.le_of_ble_eq_true rfl) (by decide) (by decide) (by decide) (k2 c1 c2)
  · exact mW_thr (text := "no such setting") (names := ["java/lang/RuntimeException", "java/lang/Exception"]) dX10_set_10 dX10_set_13 dX10_set_14 dX10_set_16 dX10_set_19 th_82_86 (by decide +kernel) rfl (Nat.le_of_ble_eq_true rfl) (by decide) (by decide) (by decide) (k3 c1)
theorem tX10_set {G : mG} {w : mH} {a0 : Nat} {x1 : Int32} {x2 : Int32} {c : Nat} {R : Nat → Nat → Int32} {A : Nat → Int32} (z : zBen w a0) (hH : hRep w (a0 + 35) c R) (hS : sRep w (a0 + 1) A) : mC G mX10_set 9 1 6 [.ref a0, .int x1, .int x2] w (tpO "java/lang/IndexOutOfBoundsException" "java/lang/IllegalArgumentException" "" (tSet x1 x2) (.int (A x1.toNatClampNeg)) (fun u => u = w) (fun u => bnO w u a0 c R A (upd A x1.toNatClampNeg x2))) := by
  refine mC_of (by decide +kernel) rfl (Nat.le_of_ble_eq_true rfl) rfl ?_
  refine gX10_set_0 (c := c) (R := R) (A := A) (a0_3 := a0 + 35) (a0_0 := a0 + 1) (a0_0_0 := a0 + 2) (by intro c1; obtain ⟨s, hs, hx⟩ := iw_N (n := 14) (by decide) rfl c1; rw [hx]; exact m_vp (by omega) (by decide)) z.1 z.2.2.2.1 z.2.1 z.2.2.2.2.2.2.2.2.2.2.2.2.2.1.1 z.2.2.2.2.2.2.2.2.2.2.2.2.2.1 z.2.2.2.2.2.2.2.2.2.2.2.1 (by intro c1 c2; omega) (by intro c1 c2; exact hH) (by intro c1 c2; exact hS) z.2.2.2.2.2.2.2.2.2.2.2.1.1 z.2.2.2.2.2.2.2.2.2.2.2.1.2.1 z.2.2.2.2.2.2.2.2.2.2.2.1.2.2.2.2.2.2.1 (by intro c1 c2 w1 q1; obtain ⟨s, hs, hx⟩ := iw_N (n := 14) (by decide) rfl c1; rw [hx]; exact m_vp (by omega) (by decide)) ?_ ?_ ?_
  · intro c1 c2 w1 q1 w2 e1
    have et : tSet x1 x2 = 0 := by unfold tSet; rw [if_neg c1, if_neg c2]
    obtain ⟨s, hs, hx⟩ := iw_N (n := 14) (by decide) rfl c1
    have cl : x1.toNatClampNeg = s := by rw [hx]; exact m_cl (by omega)
    rw [cl] at e1 ⊢
    have S1 : sRep w1 (a0 + 1) A := sRep_fr q1.1 (by omega) hS
    rw [S1.1 s (by omega)]
    exact tp_ok et (bnO_of q1 (by rw [e1]; exact mFr_sai mFr.rf (by omega) (by omega)) (sRep_set S1 (by omega) e1))
  · intro c1 c2
    exact tp_2 (by unfold tSet; rw [if_neg c1, if_pos c2]) rfl
  · intro c1
    exact tp_1 (by unfold tSet; rw [if_pos c1]) rfl
abbrev mX10_setWeight : mM := (yX10_setWeight, cX10_setWeight, 4, (some .int), [])
theorem u207 : (Cond.fieldLink "LineFollowerBench" 168 "LineFollowerBench$Setup" "weights" "[I" : Cond) ∈ mTs := mTs_in 207 (by decide +kernel) (by decide +kernel)
theorem f_X10_168 : mFld "LineFollowerBench" 168 3 1 := ⟨RX3, TX3, 5, "LineFollowerBench$Setup", rfl, by decide, in_X3, u207, Or.inl rfl, by decide⟩
set_option maxHeartbeats 4000000 in
set_option maxRecDepth 100000 in
theorem gX10_setWeight_0 {G : mG} {w : mH} {Φ : mF} {a0 : Nat} {x1 x2 : Int32} {c : Nat} {R : Nat → Nat → Int32} {A : Nat → Int32} {a0_3 a0_0 a0_0_1 n_a0_0_1 : Nat} (h1 : hk w a0 = (10, 0)) (h2 : hfr w a0 3 = some a0_3) (h3 : hfr w a0 0 = some a0_0) (h4 : hk w a0_3 = (2, 0)) (h5 : zHis w a0_3) (h6 : zSet w a0_0) (s1 : (¬ ((vX10_isWithin x1 0 4) = 0)) → (¬ ((vX10_isWithin x2 0 99) = 0)) → a0_0 + 17 ≤ a0_3 ∨ a0_3 + 104 ≤ a0_0) (s2 : (¬ ((vX10_isWithin x1 0 4) = 0)) → (¬ ((vX10_isWithin x2 0 99) = 0)) → hRep w a0_3 c R) (s3 : (¬ ((vX10_isWithin x1 0 4) = 0)) → (¬ ((vX10_isWithin x2 0 99) = 0)) → sRep w a0_0 A) (h7 : hk w a0_0 = (3, 0)) (h8 : hfr w a0_0 1 = some a0_0_1) (h9 : hk w a0_0_1 = (16, n_a0_0_1)) (s4 : (¬ ((vX10_isWithin x1 0 4) = 0)) → (¬ ((vX10_isWithin x2 0 99) = 0)) → ∀ w1 : mH, (mFr a0_3 (a0_3 + 104) w w1 ∧ hRep w1 a0_3 (min (c + 1) 6) (hPush R c A)) → vp_in x1 n_a0_0_1) (k1 : (¬ ((vX10_isWithin x1 0 4) = 0)) → (¬ ((vX10_isWithin x2 0 99) = 0)) → ∀ w1 : mH, (mFr a0_3 (a0_3 + 104) w w1 ∧ hRep w1 a0_3 (min (c + 1) 6) (hPush R c A)) → ∀ w2 : mH, (w2 = sai w1 a0_0_1 x1.toNatClampNeg x2) → Φ (.inl (some (.int (hai w1 a0_0_1 x1.toNatClampNeg)))) w2) (k2 : (¬ ((vX10_isWithin x1 0 4) = 0)) → ((vX10_isWithin x2 0 99) = 0) → ∀ n, hN w ≤ n → Φ (.inr "java/lang/IllegalArgumentException") (snn w n)) (k3 : ((vX10_isWithin x1 0 4) = 0) → ∀ n, hN w ≤ n → Φ (.inr "java/lang/IndexOutOfBoundsException") (snn w n)) : mW G mX10_setWeight 9 1 6 0 [(0, .ref a0), (1, .int x1), (2, .int x2)] [] w Φ := by
  refine mW_iload_n (j := 1) dX10_setWeight_0 rfl rfl ?_
  refine mW_iconst (v := 0) dX10_setWeight_1 (by decide) ?_
  refine mW_iconst (v := 4) dX10_setWeight_2 (by decide) ?_
  refine mW_callSe (As := [.int x1, .int 0, .int 4]) (rest := []) (kc2 := 1) (ks2 := 6) dX10_setWeight_3 l_X10_78 rfl (qX10_isWithin (w := w) (x0 := x1) (x1 := 0) (x2 := 4)) (Nat.le_of_ble_eq_true rfl) (by decide) rfl rfl ?_
  refine mW_if_ne (tgt := 19) dX10_setWeight_6 (by decide) (fun c1 => ?_) (fun c1 => ?_)
  · refine mW_iload_n (j := 2) dX10_setWeight_19 rfl rfl ?_
    refine mW_iconst (v := 0) dX10_setWeight_20 (by decide) ?_
    refine mW_bipush (v := 99) dX10_setWeight_21 (by decide) ?_
    refine mW_callSe (As := [.int x2, .int 0, .int 99]) (rest := []) (kc2 := 1) (ks2 := 6) dX10_setWeight_23 l_X10_78 rfl (qX10_isWithin (w := w) (x0 := x2) (x1 := 0) (x2 := 99)) (Nat.le_of_ble_eq_true rfl) (by decide) rfl rfl ?_
    refine mW_if_ne (tgt := 39) dX10_setWeight_26 (by decide) (fun c2 => ?_) (fun c2 => ?_)
    · refine mW_aload_n (j := 0) dX10_setWeight_39 rfl rfl ?_
      refine mW_getR dX10_setWeight_40 f_X10_26 h1 rfl h2 ?_
      refine mW_aload_n (j := 0) dX10_setWeight_43 rfl rfl ?_
      refine mW_getR dX10_setWeight_44 f_X10_12 h1 rfl h3 ?_
      refine mW_callV (As := [.ref a0_0]) (rest := []) (kc2 := 1) (ks2 := 6) dX10_setWeight_47 l_X10_101 rfl h4 rfl (by decide) (rX2_remember (w := w) (a0 := a0_3) (a1 := a0_0) h5 h6 (s1 c1 c2) (s2 c1 c2) (s3 c1 c2)) (Nat.le_of_ble_eq_true rfl) (by decide) rfl rfl mP_x (mP_k (fun w1 q1 => ?_))
      refine mW_aload_n (j := 0) dX10_setWeight_50 rfl rfl ?_
      refine mW_getR dX10_setWeight_51 f_X10_12 (s2k (mS2.of q1.1.1) h1) rfl (s2r (mS2.of q1.1.1) h3) ?_
      refine mW_getR dX10_setWeight_54 f_X10_168 (s2k (mS2.of q1.1.1) h7) rfl (s2r (mS2.of q1.1.1) h8) ?_
      refine mW_iload_n (j := 1) dX10_setWeight_57 rfl rfl ?_
      refine mW_ialdJ dX10_setWeight_58 (s2k (mS2.of q1.1.1) h9) (s4 c1 c2 w1 q1) rfl ?_
      refine mW_istore_n (lv2 := [(3, .int (hai w1 a0_0_1 x1.toNatClampNeg)), (0, .ref a0), (1, .int x1), (2, .int x2)]) dX10_setWeight_59 rfl (by decide) rfl ?_
      refine mW_aload_n (j := 1) dX10_setWeight_60 rfl rfl ?_
      refine mW_getR dX10_setWeight_61 f_X10_12 (s2k (mS2.of q1.1.1) h1) rfl (s2r (mS2.of q1.1.1) h3) ?_
      refine mW_getR dX10_setWeight_64 f_X10_168 (s2k (mS2.of q1.1.1) h7) rfl (s2r (mS2.of q1.1.1) h8) ?_
      refine mW_iload_n (j := 2) dX10_setWeight_67 rfl rfl ?_
      refine mW_iload_n (j := 3) dX10_setWeight_68 rfl rfl ?_
      refine mW_iastJ dX10_setWeight_69 (s2k (mS2.of q1.1.1) h9) (s4 c1 c2 w1 q1) rfl ?_
      refine mW_nm (fun w2 e1 => ?_)
      refine mW_iload_n (j := 0) dX10_setWeight_70 rfl rfl ?_
      exact mW_iret dX10_setWeight_71 rfl (k1 c1 c2 w1 q1 w2 e1)
    · exact mW_thr (text := "the weight is out of range") (names := ["java/lang/RuntimeException", "java/lang/Exception"]) dX10_setWeight_29 dX10_setWeight_32 dX10_setWeight_33 dX10_setWeight_35 dX10_setWeight_38 th_96_100 (by decide +kernel) rfl (Nat.le_of_ble_eq_true rfl) (by decide) (by decide) (by decide) (k2 c1 c2)
  · exact mW_thr (text := "no such part of the cost") (names := ["java/lang/RuntimeException", "java/lang/Exception"]) dX10_setWeight_9 dX10_setWeight_12 dX10_setWeight_13 dX10_setWeight_15 dX10_setWeight_18 th_82_86 (by decide +kernel) rfl (Nat.le_of_ble_eq_true rfl) (by decide) (by decide) (by decide) (k3 c1)
theorem tX10_setWeight {G : mG} {w : mH} {a0 : Nat} {x1 : Int32} {x2 : Int32} {c : Nat} {R : Nat → Nat → Int32} {A : Nat → Int32} (z : zBen w a0) (hH : hRep w (a0 + 35) c R) (hS : sRep w (a0 + 1) A) : mC G mX10_setWeight 9 1 6 [.ref a0, .int x1, .int x2] w (tpO "java/lang/IndexOutOfBoundsException" "java/lang/IllegalArgumentException" "" (tWei x1 x2) (.int (A (15 + x1.toNatClampNeg))) (fun u => u = w) (fun u => bnO w u a0 c R A (upd A (15 + x1.toNatClampNeg) x2))) := by
  refine mC_of (by decide +kernel) rfl (Nat.le_of_ble_eq_true rfl) rfl ?_
  refine gX10_setWeight_0 (c := c) (R := R) (A := A) (a0_3 := a0 + 35) (a0_0 := a0 + 1) (a0_0_1 := a0 + 3) z.1 z.2.2.2.1 z.2.1 z.2.2.2.2.2.2.2.2.2.2.2.2.2.1.1 z.2.2.2.2.2.2.2.2.2.2.2.2.2.1 z.2.2.2.2.2.2.2.2.2.2.2.1 (by intro c1 c2; omega) (by intro c1 c2; exact hH) (by intro c1 c2; exact hS) z.2.2.2.2.2.2.2.2.2.2.2.1.1 z.2.2.2.2.2.2.2.2.2.2.2.1.2.2.1 z.2.2.2.2.2.2.2.2.2.2.2.1.2.2.2.2.2.2.2.1 (by intro c1 c2 w1 q1; obtain ⟨s, hs, hx⟩ := iw_N (n := 4) (by decide) rfl c1; rw [hx]; exact m_vp (by omega) (by decide)) ?_ ?_ ?_
  · intro c1 c2 w1 q1 w2 e1
    have et : tWei x1 x2 = 0 := by unfold tWei; rw [if_neg c1, if_neg c2]
    obtain ⟨s, hs, hx⟩ := iw_N (n := 4) (by decide) rfl c1
    have cl : x1.toNatClampNeg = s := by rw [hx]; exact m_cl (by omega)
    rw [cl] at e1 ⊢
    have S1 : sRep w1 (a0 + 1) A := sRep_fr q1.1 (by omega) hS
    rw [S1.2.1 s (by omega)]
    exact tp_ok et (bnO_of q1 (by rw [e1]; exact mFr_sai mFr.rf (by omega) (by omega)) (sRep_wei S1 (by omega) e1))
  · intro c1 c2
    exact tp_2 (by unfold tWei; rw [if_neg c1, if_pos c2]) rfl
  · intro c1
    exact tp_1 (by unfold tWei; rw [if_pos c1]) rfl
abbrev mX10_setGrid : mM := (yX10_setGrid, cX10_setGrid, 5, (some .int), [])
theorem u210 : (Cond.fieldLink "LineFollowerBench" 177 "LineFollowerBench$Setup" "grid" "LLineFollowerBench$Grid;" : Cond) ∈ mTs := mTs_in 210 (by decide +kernel) (by decide +kernel)
theorem f_X10_177 : mFld "LineFollowerBench" 177 3 2 := ⟨RX3, TX3, 5, "LineFollowerBench$Setup", rfl, by decide, in_X3, u210, Or.inl rfl, by decide⟩
theorem u135 : (Cond.fieldLink "LineFollowerBench" 181 "LineFollowerBench$Grid" "firsts" "[I" : Cond) ∈ mTs := mTs_in 135 (by decide +kernel) (by decide +kernel)
theorem f_X10_181 : mFld "LineFollowerBench" 181 1 0 := ⟨RX1, TX1, 3, "LineFollowerBench$Grid", rfl, by decide, in_X1, u135, Or.inl rfl, by decide⟩
theorem u137 : (Cond.fieldLink "LineFollowerBench" 186 "LineFollowerBench$Grid" "steps" "[I" : Cond) ∈ mTs := mTs_in 137 (by decide +kernel) (by decide +kernel)
theorem f_X10_186 : mFld "LineFollowerBench" 186 1 1 := ⟨RX1, TX1, 3, "LineFollowerBench$Grid", rfl, by decide, in_X1, u137, Or.inl rfl, by decide⟩
theorem u140 : (Cond.fieldLink "LineFollowerBench" 189 "LineFollowerBench$Grid" "counts" "[I" : Cond) ∈ mTs := mTs_in 140 (by decide +kernel) (by decide +kernel)
theorem f_X10_189 : mFld "LineFollowerBench" 189 1 2 := ⟨RX1, TX1, 3, "LineFollowerBench$Grid", rfl, by decide, in_X1, u140, Or.inl rfl, by decide⟩
theorem u674 : (Cond.methodLink "LineFollowerBench" 192 ⟨"LineFollowerBench$Grid", "triples", "()I"⟩ : Cond) ∈ mTs := mTs_in 674 (by decide +kernel) (by decide +kernel)
theorem l_X10_192 : mLinkV "LineFollowerBench" 192 0 mX1_triples := ⟨⟨by decide, by decide, by decide +kernel⟩, co_X1_triples, u674, u604, u605⟩
set_option maxHeartbeats 4000000 in
set_option maxRecDepth 100000 in
theorem gX10_setGrid_0 {G : mG} {w : mH} {Φ : mF} {a0 : Nat} {x1 x2 x3 x4 : Int32} {c : Nat} {R : Nat → Nat → Int32} {A : Nat → Int32} {a0_3 a0_0 a0_0_2 a0_0_2_0 n_a0_0_2_0 a0_0_2_1 n_a0_0_2_1 a0_0_2_2 n_a0_0_2_2 : Nat} (h1 : hk w a0 = (10, 0)) (h2 : hfr w a0 3 = some a0_3) (h3 : hfr w a0 0 = some a0_0) (h4 : hk w a0_3 = (2, 0)) (h5 : zHis w a0_3) (h6 : zSet w a0_0) (s1 : (¬ ((vX10_isWithin x1 0 2) = 0)) → (¬ ((vX10_isWithin x2 0 999) = 0)) → (¬ ((vX10_isWithin x3 1 200) = 0)) → (¬ ((vX10_isWithin x4 1 6) = 0)) → ((x2 + (x3 * (x4 - 1))) ≤ 999) → a0_0 + 17 ≤ a0_3 ∨ a0_3 + 104 ≤ a0_0) (s2 : (¬ ((vX10_isWithin x1 0 2) = 0)) → (¬ ((vX10_isWithin x2 0 999) = 0)) → (¬ ((vX10_isWithin x3 1 200) = 0)) → (¬ ((vX10_isWithin x4 1 6) = 0)) → ((x2 + (x3 * (x4 - 1))) ≤ 999) → hRep w a0_3 c R) (s3 : (¬ ((vX10_isWithin x1 0 2) = 0)) → (¬ ((vX10_isWithin x2 0 999) = 0)) → (¬ ((vX10_isWithin x3 1 200) = 0)) → (¬ ((vX10_isWithin x4 1 6) = 0)) → ((x2 + (x3 * (x4 - 1))) ≤ 999) → sRep w a0_0 A) (h7 : hk w a0_0 = (3, 0)) (h8 : hfr w a0_0 2 = some a0_0_2) (h9 : hk w a0_0_2 = (1, 0)) (h10 : hfr w a0_0_2 0 = some a0_0_2_0) (h11 : hk w a0_0_2_0 = (16, n_a0_0_2_0)) (s4 : (¬ ((vX10_isWithin x1 0 2) = 0)) → (¬ ((vX10_isWithin x2 0 999) = 0)) → (¬ ((vX10_isWithin x3 1 200) = 0)) → (¬ ((vX10_isWithin x4 1 6) = 0)) → ((x2 + (x3 * (x4 - 1))) ≤ 999) → ∀ w1 : mH, (mFr a0_3 (a0_3 + 104) w w1 ∧ hRep w1 a0_3 (min (c + 1) 6) (hPush R c A)) → vp_in x1 n_a0_0_2_0) (h12 : hfr w a0_0_2 1 = some a0_0_2_1) (h13 : hk w a0_0_2_1 = (16, n_a0_0_2_1)) (s5 : (¬ ((vX10_isWithin x1 0 2) = 0)) → (¬ ((vX10_isWithin x2 0 999) = 0)) → (¬ ((vX10_isWithin x3 1 200) = 0)) → (¬ ((vX10_isWithin x4 1 6) = 0)) → ((x2 + (x3 * (x4 - 1))) ≤ 999) → ∀ w1 : mH, (mFr a0_3 (a0_3 + 104) w w1 ∧ hRep w1 a0_3 (min (c + 1) 6) (hPush R c A)) → ∀ w2 : mH, (w2 = sai w1 a0_0_2_0 x1.toNatClampNeg x2) → vp_in x1 n_a0_0_2_1) (h14 : hfr w a0_0_2 2 = some a0_0_2_2) (h15 : hk w a0_0_2_2 = (16, n_a0_0_2_2)) (s6 : (¬ ((vX10_isWithin x1 0 2) = 0)) → (¬ ((vX10_isWithin x2 0 999) = 0)) → (¬ ((vX10_isWithin x3 1 200) = 0)) → (¬ ((vX10_isWithin x4 1 6) = 0)) → ((x2 + (x3 * (x4 - 1))) ≤ 999) → ∀ w1 : mH, (mFr a0_3 (a0_3 + 104) w w1 ∧ hRep w1 a0_3 (min (c + 1) 6) (hPush R c A)) → ∀ w2 : mH, (w2 = sai w1 a0_0_2_0 x1.toNatClampNeg x2) → ∀ w3 : mH, (w3 = sai w2 a0_0_2_1 x1.toNatClampNeg x3) → vp_in x1 n_a0_0_2_2) (s7 : vp_in 0 n_a0_0_2_2) (s8 : vp_in 1 n_a0_0_2_2) (s9 : vp_in 2 n_a0_0_2_2) (k1 : (¬ ((vX10_isWithin x1 0 2) = 0)) → ((vX10_isWithin x2 0 999) = 0) → ∀ n, hN w ≤ n → Φ (.inr "java/lang/IllegalArgumentException") (snn w n)) (k2 : (¬ ((vX10_isWithin x1 0 2) = 0)) → (¬ ((vX10_isWithin x2 0 999) = 0)) → ((vX10_isWithin x3 1 200) = 0) → ∀ n, hN w ≤ n → Φ (.inr "java/lang/IllegalArgumentException") (snn w n)) (k3 : (¬ ((vX10_isWithin x1 0 2) = 0)) → (¬ ((vX10_isWithin x2 0 999) = 0)) → (¬ ((vX10_isWithin x3 1 200) = 0)) → (¬ ((vX10_isWithin x4 1 6) = 0)) → ((x2 + (x3 * (x4 - 1))) ≤ 999) → ∀ w1 : mH, (mFr a0_3 (a0_3 + 104) w w1 ∧ hRep w1 a0_3 (min (c + 1) 6) (hPush R c A)) → ∀ w2 : mH, (w2 = sai w1 a0_0_2_0 x1.toNatClampNeg x2) → ∀ w3 : mH, (w3 = sai w2 a0_0_2_1 x1.toNatClampNeg x3) → ∀ w4 : mH, (w4 = sai w3 a0_0_2_2 x1.toNatClampNeg x4) → Φ (.inl (some (.int (vX1_triples w4 a0_0_2_2)))) w4) (k4 : (¬ ((vX10_isWithin x1 0 2) = 0)) → (¬ ((vX10_isWithin x2 0 999) = 0)) → (¬ ((vX10_isWithin x3 1 200) = 0)) → (¬ ((vX10_isWithin x4 1 6) = 0)) → (¬ ((x2 + (x3 * (x4 - 1))) ≤ 999)) → ∀ n, hN w ≤ n → Φ (.inr "java/lang/IllegalArgumentException") (snn w n)) (k5 : (¬ ((vX10_isWithin x1 0 2) = 0)) → (¬ ((vX10_isWithin x2 0 999) = 0)) → (¬ ((vX10_isWithin x3 1 200) = 0)) → ((vX10_isWithin x4 1 6) = 0) → ∀ n, hN w ≤ n → Φ (.inr "java/lang/IllegalArgumentException") (snn w n)) (k6 : ((vX10_isWithin x1 0 2) = 0) → ∀ n, hN w ≤ n → Φ (.inr "java/lang/IndexOutOfBoundsException") (snn w n)) : mW G mX10_setGrid 9 1 6 0 [(0, .ref a0), (1, .int x1), (2, .int x2), (3, .int x3), (4, .int x4)] [] w Φ := by
  refine mW_iload_n (j := 1) dX10_setGrid_0 rfl rfl ?_
  refine mW_iconst (v := 0) dX10_setGrid_1 (by decide) ?_
  refine mW_iconst (v := 2) dX10_setGrid_2 (by decide) ?_
  refine mW_callSe (As := [.int x1, .int 0, .int 2]) (rest := []) (kc2 := 1) (ks2 := 6) dX10_setGrid_3 l_X10_78 rfl (qX10_isWithin (w := w) (x0 := x1) (x1 := 0) (x2 := 2)) (Nat.le_of_ble_eq_true rfl) (by decide) rfl rfl ?_
  refine mW_if_ne (tgt := 19) dX10_setGrid_6 (by decide) (fun c1 => ?_) (fun c1 => ?_)
  · refine mW_iload_n (j := 2) dX10_setGrid_19 rfl rfl ?_
    refine mW_iconst (v := 0) dX10_setGrid_20 (by decide) ?_
    refine mW_sipush (v := 999) dX10_setGrid_21 (by decide) ?_
    refine mW_callSe (As := [.int x2, .int 0, .int 999]) (rest := []) (kc2 := 1) (ks2 := 6) dX10_setGrid_24 l_X10_78 rfl (qX10_isWithin (w := w) (x0 := x2) (x1 := 0) (x2 := 999)) (Nat.le_of_ble_eq_true rfl) (by decide) rfl rfl ?_
    refine mW_if_eq (tgt := 52) dX10_setGrid_27 (by decide) (fun c2 => ?_) (fun c2 => ?_)
    · exact mW_thr (text := "a number of the row is out of range") (names := ["java/lang/RuntimeException", "java/lang/Exception"]) dX10_setGrid_52 dX10_setGrid_55 dX10_setGrid_56 dX10_setGrid_58 dX10_setGrid_61 th_96_100 (by decide +kernel) rfl (Nat.le_of_ble_eq_true rfl) (by decide) (by decide) (by decide) (k1 c1 c2)
    · refine mW_iload_n (j := 3) dX10_setGrid_30 rfl rfl ?_
      refine mW_iconst (v := 1) dX10_setGrid_31 (by decide) ?_
      refine mW_sipush (v := 200) dX10_setGrid_32 (by decide) ?_
      refine mW_callSe (As := [.int x3, .int 1, .int 200]) (rest := []) (kc2 := 1) (ks2 := 6) dX10_setGrid_35 l_X10_78 rfl (qX10_isWithin (w := w) (x0 := x3) (x1 := 1) (x2 := 200)) (Nat.le_of_ble_eq_true rfl) (by decide) rfl rfl ?_
      refine mW_if_eq (tgt := 52) dX10_setGrid_38 (by decide) (fun c3 => ?_) (fun c3 => ?_)
      · exact mW_thr (text := "a number of the row is out of range") (names := ["java/lang/RuntimeException", "java/lang/Exception"]) dX10_setGrid_52 dX10_setGrid_55 dX10_setGrid_56 dX10_setGrid_58 dX10_setGrid_61 th_96_100 (by decide +kernel) rfl (Nat.le_of_ble_eq_true rfl) (by decide) (by decide) (by decide) (k2 c1 c2 c3)
      · refine mW_iload (j := 4) dX10_setGrid_41 rfl ?_
        refine mW_iconst (v := 1) dX10_setGrid_43 (by decide) ?_
        refine mW_bipush (v := 6) dX10_setGrid_44 (by decide) ?_
        refine mW_callSe (As := [.int x4, .int 1, .int 6]) (rest := []) (kc2 := 1) (ks2 := 6) dX10_setGrid_46 l_X10_78 rfl (qX10_isWithin (w := w) (x0 := x4) (x1 := 1) (x2 := 6)) (Nat.le_of_ble_eq_true rfl) (by decide) rfl rfl ?_
        refine mW_if_ne (tgt := 62) dX10_setGrid_49 (by decide) (fun c4 => ?_) (fun c4 => ?_)
        · refine mW_iload_n (j := 2) dX10_setGrid_62 rfl rfl ?_
          refine mW_iload_n (j := 3) dX10_setGrid_63 rfl rfl ?_
          refine mW_iload (j := 4) dX10_setGrid_64 rfl ?_
          refine mW_iconst (v := 1) dX10_setGrid_66 (by decide) ?_
          refine mW_isub dX10_setGrid_67 ?_
          refine mW_imul dX10_setGrid_68 ?_
          refine mW_iadd dX10_setGrid_69 ?_
          refine mW_sipush (v := 999) dX10_setGrid_70 (by decide) ?_
          refine mW_icmp_le (tgt := 86) dX10_setGrid_73 (by decide) (fun c5 => ?_) (fun c5 => ?_)
          · refine mW_aload_n (j := 0) dX10_setGrid_86 rfl rfl ?_
            refine mW_getR dX10_setGrid_87 f_X10_26 h1 rfl h2 ?_
            refine mW_aload_n (j := 0) dX10_setGrid_90 rfl rfl ?_
            refine mW_getR dX10_setGrid_91 f_X10_12 h1 rfl h3 ?_
            refine mW_callV (As := [.ref a0_0]) (rest := []) (kc2 := 1) (ks2 := 6) dX10_setGrid_94 l_X10_101 rfl h4 rfl (by decide) (rX2_remember (w := w) (a0 := a0_3) (a1 := a0_0) h5 h6 (s1 c1 c2 c3 c4 c5) (s2 c1 c2 c3 c4 c5) (s3 c1 c2 c3 c4 c5)) (Nat.le_of_ble_eq_true rfl) (by decide) rfl rfl mP_x (mP_k (fun w1 q1 => ?_))
            refine mW_aload_n (j := 0) dX10_setGrid_97 rfl rfl ?_
            refine mW_getR dX10_setGrid_98 f_X10_12 (s2k (mS2.of q1.1.1) h1) rfl (s2r (mS2.of q1.1.1) h3) ?_
            refine mW_getR dX10_setGrid_101 f_X10_177 (s2k (mS2.of q1.1.1) h7) rfl (s2r (mS2.of q1.1.1) h8) ?_
            refine mW_getR dX10_setGrid_104 f_X10_181 (s2k (mS2.of q1.1.1) h9) rfl (s2r (mS2.of q1.1.1) h10) ?_
            refine mW_iload_n (j := 1) dX10_setGrid_107 rfl rfl ?_
            refine mW_iload_n (j := 2) dX10_setGrid_108 rfl rfl ?_
            refine mW_iastJ dX10_setGrid_109 (s2k (mS2.of q1.1.1) h11) (s4 c1 c2 c3 c4 c5 w1 q1) rfl ?_
            refine mW_nm (fun w2 e1 => ?_)
            refine mW_aload_n (j := 0) dX10_setGrid_110 rfl rfl ?_
            refine mW_getR dX10_setGrid_111 f_X10_12 (s2k (S2_sai e1) (s2k (mS2.of q1.1.1) h1)) rfl (s2r (S2_sai e1) (s2r (mS2.of q1.1.1) h3)) ?_
            refine mW_getR dX10_setGrid_114 f_X10_177 (s2k (S2_sai e1) (s2k (mS2.of q1.1.1) h7)) rfl (s2r (S2_sai e1) (s2r (mS2.of q1.1.1) h8)) ?_
            refine mW_getR dX10_setGrid_117 f_X10_186 (s2k (S2_sai e1) (s2k (mS2.of q1.1.1) h9)) rfl (s2r (S2_sai e1) (s2r (mS2.of q1.1.1) h12)) ?_
            refine mW_iload_n (j := 1) dX10_setGrid_120 rfl rfl ?_
            refine mW_iload_n (j := 3) dX10_setGrid_121 rfl rfl ?_
            refine mW_iastJ dX10_setGrid_122 (s2k (S2_sai e1) (s2k (mS2.of q1.1.1) h13)) (s5 c1 c2 c3 c4 c5 w1 q1 w2 e1) rfl ?_
            refine mW_nm (fun w3 e2 => ?_)
            refine mW_aload_n (j := 0) dX10_setGrid_123 rfl rfl ?_
            refine mW_getR dX10_setGrid_124 f_X10_12 (s2k (S2_sai e2) (s2k (S2_sai e1) (s2k (mS2.of q1.1.1) h1))) rfl (s2r (S2_sai e2) (s2r (S2_sai e1) (s2r (mS2.of q1.1.1) h3))) ?_
            refine mW_getR dX10_setGrid_127 f_X10_177 (s2k (S2_sai e2) (s2k (S2_sai e1) (s2k (mS2.of q1.1.1) h7))) rfl (s2r (S2_sai e2) (s2r (S2_sai e1) (s2r (mS2.of q1.1.1) h8))) ?_
            refine mW_getR dX10_setGrid_130 f_X10_189 (s2k (S2_sai e2) (s2k (S2_sai e1) (s2k (mS2.of q1.1.1) h9))) rfl (s2r (S2_sai e2) (s2r (S2_sai e1) (s2r (mS2.of q1.1.1) h14))) ?_
            refine mW_iload_n (j := 1) dX10_setGrid_133 rfl rfl ?_
            refine mW_iload (j := 4) dX10_setGrid_134 rfl ?_
            refine mW_iastJ dX10_setGrid_136 (s2k (S2_sai e2) (s2k (S2_sai e1) (s2k (mS2.of q1.1.1) h15))) (s6 c1 c2 c3 c4 c5 w1 q1 w2 e1 w3 e2) rfl ?_
            refine mW_nm (fun w4 e3 => ?_)
            refine mW_aload_n (j := 0) dX10_setGrid_137 rfl rfl ?_
            refine mW_getR dX10_setGrid_138 f_X10_12 (s2k (S2_sai e3) (s2k (S2_sai e2) (s2k (S2_sai e1) (s2k (mS2.of q1.1.1) h1)))) rfl (s2r (S2_sai e3) (s2r (S2_sai e2) (s2r (S2_sai e1) (s2r (mS2.of q1.1.1) h3)))) ?_
            refine mW_getR dX10_setGrid_141 f_X10_177 (s2k (S2_sai e3) (s2k (S2_sai e2) (s2k (S2_sai e1) (s2k (mS2.of q1.1.1) h7)))) rfl (s2r (S2_sai e3) (s2r (S2_sai e2) (s2r (S2_sai e1) (s2r (mS2.of q1.1.1) h8)))) ?_
            refine mW_callVe (As := []) (rest := []) (kc2 := 1) (ks2 := 6) dX10_setGrid_144 l_X10_192 rfl (s2k (S2_sai e3) (s2k (S2_sai e2) (s2k (S2_sai e1) (s2k (mS2.of q1.1.1) h9)))) rfl (by decide) (qX1_triples (w := w4) (a0 := a0_0_2) (s2k (S2_sai e3) (s2k (S2_sai e2) (s2k (S2_sai e1) (s2k (mS2.of q1.1.1) h9)))) (s2r (S2_sai e3) (s2r (S2_sai e2) (s2r (S2_sai e1) (s2r (mS2.of q1.1.1) h14)))) (s2k (S2_sai e3) (s2k (S2_sai e2) (s2k (S2_sai e1) (s2k (mS2.of q1.1.1) h15)))) s7 s8 s9) (Nat.le_of_ble_eq_true rfl) (by decide) rfl rfl ?_
            exact mW_iret dX10_setGrid_147 rfl (k3 c1 c2 c3 c4 c5 w1 q1 w2 e1 w3 e2 w4 e3)
          · exact mW_thr (text := "a value of the row would be too great") (names := ["java/lang/RuntimeException", "java/lang/Exception"]) dX10_setGrid_76 dX10_setGrid_79 dX10_setGrid_80 dX10_setGrid_82 dX10_setGrid_85 th_96_100 (by decide +kernel) rfl (Nat.le_of_ble_eq_true rfl) (by decide) (by decide) (by decide) (k4 c1 c2 c3 c4 c5)
        · exact mW_thr (text := "a number of the row is out of range") (names := ["java/lang/RuntimeException", "java/lang/Exception"]) dX10_setGrid_52 dX10_setGrid_55 dX10_setGrid_56 dX10_setGrid_58 dX10_setGrid_61 th_96_100 (by decide +kernel) rfl (Nat.le_of_ble_eq_true rfl) (by decide) (by decide) (by decide) (k5 c1 c2 c3 c4)
  · exact mW_thr (text := "no such gain") (names := ["java/lang/RuntimeException", "java/lang/Exception"]) dX10_setGrid_9 dX10_setGrid_12 dX10_setGrid_13 dX10_setGrid_15 dX10_setGrid_18 th_82_86 (by decide +kernel) rfl (Nat.le_of_ble_eq_true rfl) (by decide) (by decide) (by decide) (k6 c1)
theorem tX10_setGrid {G : mG} {w : mH} {a0 : Nat} {x1 : Int32} {x2 : Int32} {x3 : Int32} {x4 : Int32} {c : Nat} {R : Nat → Nat → Int32} {A : Nat → Int32} (z : zBen w a0) (hH : hRep w (a0 + 35) c R) (hS : sRep w (a0 + 1) A) : mC G mX10_setGrid 9 1 6 [.ref a0, .int x1, .int x2, .int x3, .int x4] w (tpO "java/lang/IndexOutOfBoundsException" "java/lang/IllegalArgumentException" "" (tGrd x1 x2 x3 x4) (.int (trI (upG A x1.toNatClampNeg x2 x3 x4))) (fun u => u = w) (fun u => bnO w u a0 c R A (upG A x1.toNatClampNeg x2 x3 x4))) := by
  refine mC_of (by decide +kernel) rfl (Nat.le_of_ble_eq_true rfl) rfl ?_
  refine gX10_setGrid_0 (c := c) (R := R) (A := A) (a0_3 := a0 + 35) (a0_0 := a0 + 1) (a0_0_2 := a0 + 4) (a0_0_2_0 := a0 + 5) (a0_0_2_1 := a0 + 6) (a0_0_2_2 := a0 + 7) z.1 z.2.2.2.1 z.2.1 z.2.2.2.2.2.2.2.2.2.2.2.2.2.1.1 z.2.2.2.2.2.2.2.2.2.2.2.2.2.1 z.2.2.2.2.2.2.2.2.2.2.2.1 (by intro c1 c2 c3 c4 c5; omega) (by intro c1 c2 c3 c4 c5; exact hH) (by intro c1 c2 c3 c4 c5; exact hS) z.2.2.2.2.2.2.2.2.2.2.2.1.1 z.2.2.2.2.2.2.2.2.2.2.2.1.2.2.2.1 z.2.2.2.2.2.2.2.2.2.2.2.1.2.2.2.2.2.2.2.2.1.1 z.2.2.2.2.2.2.2.2.2.2.2.1.2.2.2.2.2.2.2.2.1.2.1 z.2.2.2.2.2.2.2.2.2.2.2.1.2.2.2.2.2.2.2.2.1.2.2.2.2.1 (by intro c1 c2 c3 c4 c5 w1 q1; obtain ⟨s, hs, hx⟩ := iw_N (n := 2) (by decide) rfl c1; rw [hx]; exact m_vp (by omega) (by decide)) z.2.2.2.2.2.2.2.2.2.2.2.1.2.2.2.2.2.2.2.2.1.2.2.1 z.2.2.2.2.2.2.2.2.2.2.2.1.2.2.2.2.2.2.2.2.1.2.2.2.2.2.1 (by intro c1 c2 c3 c4 c5 w1 q1 w2 e1; obtain ⟨s, hs, hx⟩ := iw_N (n := 2) (by decide) rfl c1; rw [hx]; exact m_vp (by omega) (by decide)) z.2.2.2.2.2.2.2.2.2.2.2.1.2.2.2.2.2.2.2.2.1.2.2.2.1 z.2.2.2.2.2.2.2.2.2.2.2.1.2.2.2.2.2.2.2.2.1.2.2.2.2.2.2 (by intro c1 c2 c3 c4 c5 w1 q1 w2 e1 w3 e2; obtain ⟨s, hs, hx⟩ := iw_N (n := 2) (by decide) rfl c1; rw [hx]; exact m_vp (by omega) (by decide)) (by intros; unfold vp_in; decide) (by intros; unfold vp_in; decide) (by intros; unfold vp_in; decide) ?_ ?_ ?_ ?_ ?_ ?_
  · intro c1 c2
    exact tp_2 (by unfold tGrd; rw [if_neg c1, if_pos c2]) rfl
  · intro c1 c2 c3
    exact tp_2 (by unfold tGrd; rw [if_neg c1, if_neg c2, if_pos c3]) rfl
  · intro c1 c2 c3 c4 c5 w1 q1 w2 e1 w3 e2 w4 e3
    have et : tGrd x1 x2 x3 x4 = 0 := by unfold tGrd; rw [if_neg c1, if_neg c2, if_neg c3, if_neg c4, if_pos c5]
    obtain ⟨s, hs, hx⟩ := iw_N (n := 2) (by decide) rfl c1
    have cl : x1.toNatClampNeg = s := by rw [hx]; exact m_cl (by omega)
    rw [cl] at e1 e2 e3 ⊢
    have S1 : sRep w1 (a0 + 1) A := sRep_fr q1.1 (by omega) hS
    have S4 := sRep_grd S1 (by omega) e1 e2 e3
    refine tp_okv et ?_ (bnO_of q1 (by rw [e3, e2, e1]; exact mFr_sai (mFr_sai (mFr_sai mFr.rf (by omega) (by omega)) (by omega) (by omega)) (by omega) (by omega)) S4)
    have g0 := (S4.2.2.1 0 (by decide)).2.2
    have g1 := (S4.2.2.1 1 (by decide)).2.2
    have g2 := (S4.2.2.1 2 (by decide)).2.2
    unfold vX1_triples trI
    rw [show hai w4 (a0 + 7) 0 = _ from g0, show hai w4 (a0 + 7) 1 = _ from g1, show hai w4 (a0 + 7) 2 = _ from g2]
  · intro c1 c2 c3 c4 c5
    exact tp_2 (by unfold tGrd; rw [if_neg c1, if_neg c2, if_neg c3, if_neg c4, if_neg c5]) rfl
  · intro c1 c2 c3 c4
    exact tp_2 (by unfold tGrd; rw [if_neg c1, if_neg c2, if_neg c3, if_pos c4]) rfl
  · intro c1
    exact tp_1 (by unfold tGrd; rw [if_pos c1]) rfl
