/-- outside two intervals nothing has changed -/
def mF2 (l1 h1 l2 h2 : Nat) (w w' : mH) : Prop := mSh w w' ∧ ∀ a, (a < l1 ∨ h1 ≤ a) → (a < l2 ∨ h2 ≤ a) → hfi w' a = hfi w a ∧ hfl w' a = hfl w a ∧ hai w' a = hai w a ∧ hal w' a = hal w a
theorem mF2.rf {l1 h1 l2 h2 : Nat} {w : mH} : mF2 l1 h1 l2 h2 w w := ⟨mSh.rf, fun a _ _ => ⟨rfl, rfl, rfl, rfl⟩⟩
theorem mF2.tr {l1 h1 l2 h2 : Nat} {w w1 w2 : mH} (h : mF2 l1 h1 l2 h2 w w1) (g : mF2 l1 h1 l2 h2 w1 w2) : mF2 l1 h1 l2 h2 w w2 := ⟨h.1.tr g.1, fun a ha hb => ⟨(g.2 a ha hb).1.trans (h.2 a ha hb).1, (g.2 a ha hb).2.1.trans (h.2 a ha hb).2.1, (g.2 a ha hb).2.2.1.trans (h.2 a ha hb).2.2.1, (g.2 a ha hb).2.2.2.trans (h.2 a ha hb).2.2.2⟩⟩
theorem mFr.f1 {lo hi l1 h1 l2 h2 : Nat} {w w1 : mH} (h : mFr lo hi w w1) (q1 : l1 ≤ lo) (q2 : hi ≤ h1) : mF2 l1 h1 l2 h2 w w1 := ⟨h.1, fun a ha _ => h.2 a (by omega)⟩
theorem mFr.f2 {lo hi l1 h1 l2 h2 : Nat} {w w1 : mH} (h : mFr lo hi w w1) (q1 : l2 ≤ lo) (q2 : hi ≤ h2) : mF2 l1 h1 l2 h2 w w1 := ⟨h.1, fun a _ ha => h.2 a (by omega)⟩
theorem mF2.hfi {l1 h1 l2 h2 a : Nat} {w w1 : mH} (h : mF2 l1 h1 l2 h2 w w1) (q : (a < l1 ∨ h1 ≤ a) ∧ (a < l2 ∨ h2 ≤ a)) : hfi w1 a = hfi w a := (h.2 a q.1 q.2).1
theorem mF2.hfl {l1 h1 l2 h2 a : Nat} {w w1 : mH} (h : mF2 l1 h1 l2 h2 w w1) (q : (a < l1 ∨ h1 ≤ a) ∧ (a < l2 ∨ h2 ≤ a)) : hfl w1 a = hfl w a := (h.2 a q.1 q.2).2.1
theorem mF2.hai {l1 h1 l2 h2 a : Nat} {w w1 : mH} (h : mF2 l1 h1 l2 h2 w w1) (q : (a < l1 ∨ h1 ≤ a) ∧ (a < l2 ∨ h2 ≤ a)) : hai w1 a = hai w a := (h.2 a q.1 q.2).2.2.1
theorem mF2.hal {l1 h1 l2 h2 a : Nat} {w w1 : mH} (h : mF2 l1 h1 l2 h2 w w1) (q : (a < l1 ∨ h1 ≤ a) ∧ (a < l2 ∨ h2 ≤ a)) : hal w1 a = hal w a := (h.2 a q.1 q.2).2.2.2
theorem mF2.fr {l1 h1 l2 h2 lo hi : Nat} {w w1 : mH} (h : mF2 l1 h1 l2 h2 w w1) (q : lo ≤ l1 ∧ h1 ≤ hi ∧ lo ≤ l2 ∧ h2 ≤ hi) : mFr lo hi w w1 := ⟨h.1, fun a ha => h.2 a (by omega) (by omega)⟩
def fBest (q : Nat → Int64) : Nat → Nat | 0 => 0 | k + 1 => if k = 0 then 0 else if q k < q (fBest q k) then k else fBest q k
theorem fBest_lt (q : Nat → Int64) : ∀ k, 0 < k → fBest q k < k
  | 0, h => absurd h (Nat.lt_irrefl _)
  | k + 1, _ => by
    rw [fBest]
    by_cases h0 : k = 0
    · rw [if_pos h0]; omega
    · rw [if_neg h0]
      have := fBest_lt q k (by omega)
      split <;> omega
/-- found at a: the triple m, its cost -/
def oRep (w : mH) (a : Nat) (A : Nat → Int32) (q : Nat → Int64) (m : Nat) : Prop := hfi w a 0 = 1 ∧ hai w (a + 1) 0 = gVal A 0 (m / cG A 2 / cG A 1) ∧ hai w (a + 1) 1 = gVal A 1 (m / cG A 2 % cG A 1) ∧ hai w (a + 1) 2 = gVal A 2 (m % cG A 2) ∧ hfl w a 2 = q m
abbrev mX9_takeLeast : mM := (yX9_takeLeast, cX9_takeLeast, 5, none, [])
set_option maxHeartbeats 4000000 in
set_option maxRecDepth 100000 in
theorem gX9_takeLeast_0 {G : mG} {w : mH} {Φ : mF} {a0 a1 a2 : Nat} {A : Nat → Int32} {i j k m a1_2 n_a1_2 a0_3 n_a0_3 : Nat} (h1 : hk w a1 = (1, 0)) (h2 : hfr w a1 2 = some a1_2) (h3 : hk w a1_2 = (16, n_a1_2)) (s1 : vp_in 0 n_a1_2) (s2 : vp_in 1 n_a1_2) (s3 : vp_in 2 n_a1_2) (h4 : hk w a0 = (9, 0)) (h5 : hfr w a0 3 = some a0_3) (h6 : hk w a0_3 = (16, n_a0_3)) (s4 : vp_in 0 n_a0_3) (s5 : vp_in 1 n_a0_3) (s6 : vp_in 2 n_a0_3) (k1 : ∀ w1 : mH, (w1 = sX9_startIndexes w a0_3) → mW G mX9_takeLeast 5 0 0 12 [(0, .ref a0), (1, .ref a1), (2, .ref a2), (3, .int (vX1_triples w a1_2)), (4, .int 0)] [] w1 Φ) : mW G mX9_takeLeast 5 0 0 0 [(0, .ref a0), (1, .ref a1), (2, .ref a2)] [] w Φ := by
  refine mW_aload_n (j := 1) dX9_takeLeast_0 rfl rfl ?_
  refine mW_callVe (As := []) (rest := []) (kc2 := 0) (ks2 := 0) dX9_takeLeast_1 l_X9_43 rfl h1 rfl (by decide) (qX1_triples (w := w) (a0 := a1) h1 h2 h3 s1 s2 s3) (Nat.le_of_ble_eq_true rfl) (by decide) rfl rfl ?_
  refine mW_istore_n (lv2 := [(3, .int (vX1_triples w a1_2)), (0, .ref a0), (1, .ref a1), (2, .ref a2)]) dX9_takeLeast_4 rfl (by decide) rfl ?_
  refine mW_aload_n (j := 1) dX9_takeLeast_5 rfl rfl ?_
  refine mW_callVe (As := []) (rest := []) (kc2 := 0) (ks2 := 0) dX9_takeLeast_6 l_X9_49 rfl h4 rfl (by decide) (qX9_startIndexes (w := w) (a0 := a0) h4 h5 h6 s4 s5 s6) (Nat.le_of_ble_eq_true rfl) (by decide) rfl rfl ?_
  refine mW_nm (fun w1 e1 => ?_)
  refine mW_iconst (v := 0) dX9_takeLeast_9 (by decide) ?_
  refine mW_istore (lv2 := [(4, .int 0), (3, .int (vX1_triples w a1_2)), (0, .ref a0), (1, .ref a1), (2, .ref a2)]) dX9_takeLeast_10 (by decide) rfl ?_
  refine mW_loc [2, 3, 4, 1, 0] (lv2 := [(0, .ref a0), (1, .ref a1), (2, .ref a2), (3, .int (vX1_triples w a1_2)), (4, .int 0)]) rfl ?_
  exact k1 w1 e1
theorem f_X9_86 : mFld "LineFollowerBench$Tuner" 86 0 2 := ⟨RX0, TX0, 4, "LineFollowerBench$Found", rfl, by decide, in_X0, u433, Or.inl rfl, by decide⟩
theorem u673 : (Cond.code ⟨"LineFollowerBench$Tuner", "greaterCosts", "(LLineFollowerBench$Grid;J)I"⟩ prog_11_method_11_code 7 (some .int) : Cond) ∈ mTs := mTs_in 673 (by decide +kernel) (by decide +kernel)
theorem co_X9_greaterCosts : mCode mX9_greaterCosts := ⟨u673, u83, by decide⟩
theorem u670 : (Cond.methodLink "LineFollowerBench$Tuner" 96 ⟨"LineFollowerBench$Tuner", "greaterCosts", "(LLineFollowerBench$Grid;J)I"⟩ : Cond) ∈ mTs := mTs_in 670 (by decide +kernel) (by decide +kernel)
theorem u672 : (Cond.instanceMethod ⟨"LineFollowerBench$Tuner", "greaterCosts", "(LLineFollowerBench$Grid;J)I"⟩ : Cond) ∈ mTs := mTs_in 672 (by decide +kernel) (by decide +kernel)
theorem u21 : (Cond.selects "LineFollowerBench$Tuner" ⟨"LineFollowerBench$Tuner", "greaterCosts", "(LLineFollowerBench$Grid;J)I"⟩ ⟨"LineFollowerBench$Tuner", "greaterCosts", "(LLineFollowerBench$Grid;J)I"⟩ : Cond) ∈ mTs := mTs_in 21 (by decide +kernel) (by decide +kernel)
theorem l_X9_96 : mLinkV "LineFollowerBench$Tuner" 96 2 mX9_greaterCosts := ⟨⟨by decide, by decide, by decide +kernel⟩, co_X9_greaterCosts, u670, u672, u21⟩
theorem u436 : (Cond.fieldLink "LineFollowerBench$Tuner" 100 "LineFollowerBench$Found" "greater" "I" : Cond) ∈ mTs := mTs_in 436 (by decide +kernel) (by decide +kernel)
theorem p_X9_100 : mPut "LineFollowerBench$Tuner" 100 0 3 (.int) false := ⟨RX0, TX0, 4, "LineFollowerBench$Found", tyX0, rfl, by decide, in_X0, u436, Or.inl rfl, by decide, tyX0_ok, nmX0, by decide +kernel, rfl, fun h => by cases h⟩
theorem ob_0_3 (w : mH) (a : Nat) (v : Int32) : mOb (sfi w a 3 v) a 0 = (mOb w a 0).set 3 (.int v) := by simp [mOb, hfi_sfi, hfl_sfi, hfr_sfi, up2]
theorem u664 : (Cond.code ⟨"LineFollowerBench$Tuner", "takeIndexes", "(LLineFollowerBench$Grid;LLineFollowerBench$Found;)V"⟩ prog_11_method_10_code 4 (none : Option ClassFile.FieldType) : Cond) ∈ mTs := mTs_in 664 (by decide +kernel) (by decide +kernel)
theorem co_X9_takeIndexes : mCode mX9_takeIndexes := ⟨u664, u83, by decide⟩
theorem u661 : (Cond.methodLink "LineFollowerBench$Tuner" 92 ⟨"LineFollowerBench$Tuner", "takeIndexes", "(LLineFollowerBench$Grid;LLineFollowerBench$Found;)V"⟩ : Cond) ∈ mTs := mTs_in 661 (by decide +kernel) (by decide +kernel)
theorem u663 : (Cond.instanceMethod ⟨"LineFollowerBench$Tuner", "takeIndexes", "(LLineFollowerBench$Grid;LLineFollowerBench$Found;)V"⟩ : Cond) ∈ mTs := mTs_in 663 (by decide +kernel) (by decide +kernel)
theorem u19 : (Cond.selects "LineFollowerBench$Tuner" ⟨"LineFollowerBench$Tuner", "takeIndexes", "(LLineFollowerBench$Grid;LLineFollowerBench$Found;)V"⟩ ⟨"LineFollowerBench$Tuner", "takeIndexes", "(LLineFollowerBench$Grid;LLineFollowerBench$Found;)V"⟩ : Cond) ∈ mTs := mTs_in 19 (by decide +kernel) (by decide +kernel)
theorem l_X9_92 : mLinkV "LineFollowerBench$Tuner" 92 2 mX9_takeIndexes := ⟨⟨by decide, by decide, by decide +kernel⟩, co_X9_takeIndexes, u661, u663, u19⟩
set_option maxHeartbeats 4000000 in
set_option maxRecDepth 100000 in
theorem gX9_takeLeast_12 {G : mG} {w : mH} {Φ : mF} {a0 a1 a2 : Nat} {x3 x4 : Int32} {A : Nat → Int32} {i j k m a0_2 n_a0_2 : Nat} (h1 : hk w a2 = (0, 0)) (h2 : hk w a0 = (9, 0)) (h3 : zTun w a0) (h4 : zGrid w a1) (s1 : (x3 ≤ x4) → gRep w a1 A) (s2 : (x3 ≤ x4) → gOK A) (s3 : (¬ (x3 ≤ x4)) → (216 ≤ x4) → gRep w a1 A) (s4 : (¬ (x3 ≤ x4)) → (216 ≤ x4) → gOK A) (h5 : zFnd w a2) (s5 : (¬ (x3 ≤ x4)) → (¬ (216 ≤ x4)) → (x4 = 0) → a0 + 18 ≤ a2 ∨ a2 + 2 ≤ a0) (s6 : (¬ (x3 ≤ x4)) → (¬ (216 ≤ x4)) → (x4 = 0) → a1 + 4 ≤ a2 ∨ a2 + 2 ≤ a1) (s7 : (¬ (x3 ≤ x4)) → (¬ (216 ≤ x4)) → (x4 = 0) → gRep w a1 A) (s8 : (¬ (x3 ≤ x4)) → (¬ (216 ≤ x4)) → (x4 = 0) → gOK A) (s9 : (¬ (x3 ≤ x4)) → (¬ (216 ≤ x4)) → (x4 = 0) → i < cG A 0) (s10 : (¬ (x3 ≤ x4)) → (¬ (216 ≤ x4)) → (x4 = 0) → j < cG A 1) (s11 : (¬ (x3 ≤ x4)) → (¬ (216 ≤ x4)) → (x4 = 0) → k < cG A 2) (s12 : (¬ (x3 ≤ x4)) → (¬ (216 ≤ x4)) → (x4 = 0) → iRep w a0 i j k) (s13 : (¬ (x3 ≤ x4)) → (¬ (216 ≤ x4)) → (x4 = 0) → ∀ w3 : mH, (mFr a2 (a2 + 2) w w3 ∧ hfi w3 a2 0 = 1 ∧ hai w3 (a2 + 1) 0 = gVal A 0 i ∧ hai w3 (a2 + 1) 1 = gVal A 1 j ∧ hai w3 (a2 + 1) 2 = gVal A 2 k ∧ hfl w3 a2 2 = hal w (a0 + 16) (fl A i j k) ∧ hfi w3 a2 3 = hfi w a2 3) → a0 + 18 ≤ a1 ∨ a1 + 4 ≤ a0) (s14 : (¬ (x3 ≤ x4)) → (¬ (216 ≤ x4)) → (x4 = 0) → ∀ w3 : mH, (mFr a2 (a2 + 2) w w3 ∧ hfi w3 a2 0 = 1 ∧ hai w3 (a2 + 1) 0 = gVal A 0 i ∧ hai w3 (a2 + 1) 1 = gVal A 1 j ∧ hai w3 (a2 + 1) 2 = gVal A 2 k ∧ hfl w3 a2 2 = hal w (a0 + 16) (fl A i j k) ∧ hfi w3 a2 3 = hfi w a2 3) → gRep w3 a1 A) (s15 : (¬ (x3 ≤ x4)) → (¬ (216 ≤ x4)) → (x4 = 0) → ∀ w3 : mH, (mFr a2 (a2 + 2) w w3 ∧ hfi w3 a2 0 = 1 ∧ hai w3 (a2 + 1) 0 = gVal A 0 i ∧ hai w3 (a2 + 1) 1 = gVal A 1 j ∧ hai w3 (a2 + 1) 2 = gVal A 2 k ∧ hfl w3 a2 2 = hal w (a0 + 16) (fl A i j k) ∧ hfi w3 a2 3 = hfi w a2 3) → m < gT A) (s16 : (¬ (x3 ≤ x4)) → (¬ (216 ≤ x4)) → (x4 = 0) → ∀ w3 : mH, (mFr a2 (a2 + 2) w w3 ∧ hfi w3 a2 0 = 1 ∧ hai w3 (a2 + 1) 0 = gVal A 0 i ∧ hai w3 (a2 + 1) 1 = gVal A 1 j ∧ hai w3 (a2 + 1) 2 = gVal A 2 k ∧ hfl w3 a2 2 = hal w (a0 + 16) (fl A i j k) ∧ hfi w3 a2 3 = hfi w a2 3) → jRep w3 a0 A m) (h6 : hfr w a0 2 = some a0_2) (h7 : hk w a0_2 = (17, n_a0_2)) (s17 : (¬ (x3 ≤ x4)) → (¬ (216 ≤ x4)) → (¬ (x4 = 0)) → vp_in x4 n_a0_2) (s18 : (¬ (x3 ≤ x4)) → (¬ (216 ≤ x4)) → (¬ (x4 = 0)) → (0 ≤ (lg_cmp (hal w a0_2 x4.toNatClampNeg) (hfl w a2 2))) → a0 + 18 ≤ a1 ∨ a1 + 4 ≤ a0) (s19 : (¬ (x3 ≤ x4)) → (¬ (216 ≤ x4)) → (¬ (x4 = 0)) → (0 ≤ (lg_cmp (hal w a0_2 x4.toNatClampNeg) (hfl w a2 2))) → gRep w a1 A) (s20 : (¬ (x3 ≤ x4)) → (¬ (216 ≤ x4)) → (¬ (x4 = 0)) → (0 ≤ (lg_cmp (hal w a0_2 x4.toNatClampNeg) (hfl w a2 2))) → gOK A) (s21 : (¬ (x3 ≤ x4)) → (¬ (216 ≤ x4)) → (¬ (x4 = 0)) → (0 ≤ (lg_cmp (hal w a0_2 x4.toNatClampNeg) (hfl w a2 2))) → m < gT A) (s22 : (¬ (x3 ≤ x4)) → (¬ (216 ≤ x4)) → (¬ (x4 = 0)) → (0 ≤ (lg_cmp (hal w a0_2 x4.toNatClampNeg) (hfl w a2 2))) → jRep w a0 A m) (s23 : (¬ (x3 ≤ x4)) → (¬ (216 ≤ x4)) → (¬ (x4 = 0)) → (¬ (0 ≤ (lg_cmp (hal w a0_2 x4.toNatClampNeg) (hfl w a2 2)))) → a0 + 18 ≤ a2 ∨ a2 + 2 ≤ a0) (s24 : (¬ (x3 ≤ x4)) → (¬ (216 ≤ x4)) → (¬ (x4 = 0)) → (¬ (0 ≤ (lg_cmp (hal w a0_2 x4.toNatClampNeg) (hfl w a2 2)))) → a1 + 4 ≤ a2 ∨ a2 + 2 ≤ a1) (s25 : (¬ (x3 ≤ x4)) → (¬ (216 ≤ x4)) → (¬ (x4 = 0)) → (¬ (0 ≤ (lg_cmp (hal w a0_2 x4.toNatClampNeg) (hfl w a2 2)))) → gRep w a1 A) (s26 : (¬ (x3 ≤ x4)) → (¬ (216 ≤ x4)) → (¬ (x4 = 0)) → (¬ (0 ≤ (lg_cmp (hal w a0_2 x4.toNatClampNeg) (hfl w a2 2)))) → gOK A) (s27 : (¬ (x3 ≤ x4)) → (¬ (216 ≤ x4)) → (¬ (x4 = 0)) → (¬ (0 ≤ (lg_cmp (hal w a0_2 x4.toNatClampNeg) (hfl w a2 2)))) → i < cG A 0) (s28 : (¬ (x3 ≤ x4)) → (¬ (216 ≤ x4)) → (¬ (x4 = 0)) → (¬ (0 ≤ (lg_cmp (hal w a0_2 x4.toNatClampNeg) (hfl w a2 2)))) → j < cG A 1) (s29 : (¬ (x3 ≤ x4)) → (¬ (216 ≤ x4)) → (¬ (x4 = 0)) → (¬ (0 ≤ (lg_cmp (hal w a0_2 x4.toNatClampNeg) (hfl w a2 2)))) → k < cG A 2) (s30 : (¬ (x3 ≤ x4)) → (¬ (216 ≤ x4)) → (¬ (x4 = 0)) → (¬ (0 ≤ (lg_cmp (hal w a0_2 x4.toNatClampNeg) (hfl w a2 2)))) → iRep w a0 i j k) (s31 : (¬ (x3 ≤ x4)) → (¬ (216 ≤ x4)) → (¬ (x4 = 0)) → (¬ (0 ≤ (lg_cmp (hal w a0_2 x4.toNatClampNeg) (hfl w a2 2)))) → ∀ w6 : mH, (mFr a2 (a2 + 2) w w6 ∧ hfi w6 a2 0 = 1 ∧ hai w6 (a2 + 1) 0 = gVal A 0 i ∧ hai w6 (a2 + 1) 1 = gVal A 1 j ∧ hai w6 (a2 + 1) 2 = gVal A 2 k ∧ hfl w6 a2 2 = hal w (a0 + 16) (fl A i j k) ∧ hfi w6 a2 3 = hfi w a2 3) → a0 + 18 ≤ a1 ∨ a1 + 4 ≤ a0) (s32 : (¬ (x3 ≤ x4)) → (¬ (216 ≤ x4)) → (¬ (x4 = 0)) → (¬ (0 ≤ (lg_cmp (hal w a0_2 x4.toNatClampNeg) (hfl w a2 2)))) → ∀ w6 : mH, (mFr a2 (a2 + 2) w w6 ∧ hfi w6 a2 0 = 1 ∧ hai w6 (a2 + 1) 0 = gVal A 0 i ∧ hai w6 (a2 + 1) 1 = gVal A 1 j ∧ hai w6 (a2 + 1) 2 = gVal A 2 k ∧ hfl w6 a2 2 = hal w (a0 + 16) (fl A i j k) ∧ hfi w6 a2 3 = hfi w a2 3) → gRep w6 a1 A) (s33 : (¬ (x3 ≤ x4)) → (¬ (216 ≤ x4)) → (¬ (x4 = 0)) → (¬ (0 ≤ (lg_cmp (hal w a0_2 x4.toNatClampNeg) (hfl w a2 2)))) → ∀ w6 : mH, (mFr a2 (a2 + 2) w w6 ∧ hfi w6 a2 0 = 1 ∧ hai w6 (a2 + 1) 0 = gVal A 0 i ∧ hai w6 (a2 + 1) 1 = gVal A 1 j ∧ hai w6 (a2 + 1) 2 = gVal A 2 k ∧ hfl w6 a2 2 = hal w (a0 + 16) (fl A i j k) ∧ hfi w6 a2 3 = hfi w a2 3) → m < gT A) (s34 : (¬ (x3 ≤ x4)) → (¬ (216 ≤ x4)) → (¬ (x4 = 0)) → (¬ (0 ≤ (lg_cmp (hal w a0_2 x4.toNatClampNeg) (hfl w a2 2)))) → ∀ w6 : mH, (mFr a2 (a2 + 2) w w6 ∧ hfi w6 a2 0 = 1 ∧ hai w6 (a2 + 1) 0 = gVal A 0 i ∧ hai w6 (a2 + 1) 1 = gVal A 1 j ∧ hai w6 (a2 + 1) 2 = gVal A 2 k ∧ hfl w6 a2 2 = hal w (a0 + 16) (fl A i j k) ∧ hfi w6 a2 3 = hfi w a2 3) → jRep w6 a0 A m) (k1 : (x3 ≤ x4) → ∀ w1 : mH, (w1 = sfi w a2 3 (nI (fGt (hal w (a0 + 16)) (hfl w a2 2) (gT A)))) → Φ (.inl none) w1) (k2 : (¬ (x3 ≤ x4)) → (216 ≤ x4) → ∀ w2 : mH, (w2 = sfi w a2 3 (nI (fGt (hal w (a0 + 16)) (hfl w a2 2) (gT A)))) → Φ (.inl none) w2) (k3 : (¬ (x3 ≤ x4)) → (¬ (216 ≤ x4)) → (x4 = 0) → ∀ w3 : mH, (mFr a2 (a2 + 2) w w3 ∧ hfi w3 a2 0 = 1 ∧ hai w3 (a2 + 1) 0 = gVal A 0 i ∧ hai w3 (a2 + 1) 1 = gVal A 1 j ∧ hai w3 (a2 + 1) 2 = gVal A 2 k ∧ hfl w3 a2 2 = hal w (a0 + 16) (fl A i j k) ∧ hfi w3 a2 3 = hfi w a2 3) → ∀ w4 : mH, (mFr (a0 + 17) (a0 + 18) w3 w4 ∧ (m + 1 < gT A → jRep w4 a0 A (m + 1))) → mW G mX9_takeLeast 5 0 0 12 [(0, .ref a0), (1, .ref a1), (2, .ref a2), (3, .int x3), (4, .int (x4 + 1))] [] w4 Φ) (k4 : (¬ (x3 ≤ x4)) → (¬ (216 ≤ x4)) → (¬ (x4 = 0)) → (0 ≤ (lg_cmp (hal w a0_2 x4.toNatClampNeg) (hfl w a2 2))) → ∀ w5 : mH, (mFr (a0 + 17) (a0 + 18) w w5 ∧ (m + 1 < gT A → jRep w5 a0 A (m + 1))) → mW G mX9_takeLeast 5 0 0 12 [(0, .ref a0), (1, .ref a1), (2, .ref a2), (3, .int x3), (4, .int (x4 + 1))] [] w5 Φ) (k5 : (¬ (x3 ≤ x4)) → (¬ (216 ≤ x4)) → (¬ (x4 = 0)) → (¬ (0 ≤ (lg_cmp (hal w a0_2 x4.toNatClampNeg) (hfl w a2 2)))) → ∀ w6 : mH, (mFr a2 (a2 + 2) w w6 ∧ hfi w6 a2 0 = 1 ∧ hai w6 (a2 + 1) 0 = gVal A 0 i ∧ hai w6 (a2 + 1) 1 = gVal A 1 j ∧ hai w6 (a2 + 1) 2 = gVal A 2 k ∧ hfl w6 a2 2 = hal w (a0 + 16) (fl A i j k) ∧ hfi w6 a2 3 = hfi w a2 3) → ∀ w7 : mH, (mFr (a0 + 17) (a0 + 18) w6 w7 ∧ (m + 1 < gT A → jRep w7 a0 A (m + 1))) → mW G mX9_takeLeast 5 0 0 12 [(0, .ref a0), (1, .ref a1), (2, .ref a2), (3, .int x3), (4, .int (x4 + 1))] [] w7 Φ) : mW G mX9_takeLeast 5 0 0 12 [(0, .ref a0), (1, .ref a1), (2, .ref a2), (3, .int x3), (4, .int x4)] [] w Φ := by
  refine mW_iload (j := 4) dX9_takeLeast_12 rfl ?_
  refine mW_iload_n (j := 3) dX9_takeLeast_14 rfl rfl ?_
  refine mW_icmp_ge (tgt := 63) dX9_takeLeast_15 (by decide) (fun c1 => ?_) (fun c1 => ?_)
  · refine mW_aload_n (j := 2) dX9_takeLeast_63 rfl rfl ?_
    refine mW_aload_n (j := 0) dX9_takeLeast_64 rfl rfl ?_
    refine mW_aload_n (j := 1) dX9_takeLeast_65 rfl rfl ?_
    refine mW_aload_n (j := 2) dX9_takeLeast_66 rfl rfl ?_
    refine mW_get dX9_takeLeast_67 f_X9_86 h1 rfl ?_
    refine mW_callVe (As := [.ref a1, .long (hfl w a2 2)]) (rest := [.ref a2]) (kc2 := 0) (ks2 := 0) dX9_takeLeast_70 l_X9_96 rfl h2 rfl (by decide) (qX9_greaterCosts (w := w) (a0 := a0) (a1 := a1) (y2 := hfl w a2 2) h3 h4 (s1 c1) (s2 c1)) (Nat.le_of_ble_eq_true rfl) (by decide) rfl rfl ?_
    refine mW_put (ty := .int) (w2 := sfi w a2 3 (nI (fGt (hal w (a0 + 16)) (hfl w a2 2) (gT A)))) dX9_takeLeast_73 p_X9_100 h1 (Nat.le_of_ble_eq_true rfl) (by first | rfl | decide | (repeat' split) <;> rfl) rfl (hN_sfi _ _ _ _) (hk_sfi _ _ _ _) (mE_sfi h1 (by decide) (ob_0_3 _ _ _)) ?_
    refine mW_nm (fun w1 e1 => ?_)
    exact mW_vret dX9_takeLeast_76 rfl (k1 c1 w1 e1)
  · refine mW_iload (j := 4) dX9_takeLeast_18 rfl ?_
    refine mW_sipush (v := 216) dX9_takeLeast_20 (by decide) ?_
    refine mW_icmp_ge (tgt := 63) dX9_takeLeast_23 (by decide) (fun c2 => ?_) (fun c2 => ?_)
    · refine mW_aload_n (j := 2) dX9_takeLeast_63 rfl rfl ?_
      refine mW_aload_n (j := 0) dX9_takeLeast_64 rfl rfl ?_
      refine mW_aload_n (j := 1) dX9_takeLeast_65 rfl rfl ?_
      refine mW_aload_n (j := 2) dX9_takeLeast_66 rfl rfl ?_
      refine mW_get dX9_takeLeast_67 f_X9_86 h1 rfl ?_
      refine mW_callVe (As := [.ref a1, .long (hfl w a2 2)]) (rest := [.ref a2]) (kc2 := 0) (ks2 := 0) dX9_takeLeast_70 l_X9_96 rfl h2 rfl (by decide) (qX9_greaterCosts (w := w) (a0 := a0) (a1 := a1) (y2 := hfl w a2 2) h3 h4 (s3 c1 c2) (s4 c1 c2)) (Nat.le_of_ble_eq_true rfl) (by decide) rfl rfl ?_
      refine mW_put (ty := .int) (w2 := sfi w a2 3 (nI (fGt (hal w (a0 + 16)) (hfl w a2 2) (gT A)))) dX9_takeLeast_73 p_X9_100 h1 (Nat.le_of_ble_eq_true rfl) (by first | rfl | decide | (repeat' split) <;> rfl) rfl (hN_sfi _ _ _ _) (hk_sfi _ _ _ _) (mE_sfi h1 (by decide) (ob_0_3 _ _ _)) ?_
      refine mW_nm (fun w2 e2 => ?_)
      exact mW_vret dX9_takeLeast_76 rfl (k2 c1 c2 w2 e2)
    · refine mW_iload (j := 4) dX9_takeLeast_26 rfl ?_
      refine mW_if_eq (tgt := 46) dX9_takeLeast_28 (by decide) (fun c3 => ?_) (fun c3 => ?_)
      · refine mW_aload_n (j := 0) dX9_takeLeast_46 rfl rfl ?_
        refine mW_aload_n (j := 1) dX9_takeLeast_47 rfl rfl ?_
        refine mW_aload_n (j := 2) dX9_takeLeast_48 rfl rfl ?_
        refine mW_callV (As := [.ref a1, .ref a2]) (rest := []) (kc2 := 0) (ks2 := 0) dX9_takeLeast_49 l_X9_92 rfl h2 rfl (by decide) (rX9_takeIndexes (w := w) (a0 := a0) (a1 := a1) (a2 := a2) h3 h4 h5 (s5 c1 c2 c3) (s6 c1 c2 c3) (s7 c1 c2 c3) (s8 c1 c2 c3) (s9 c1 c2 c3) (s10 c1 c2 c3) (s11 c1 c2 c3) (s12 c1 c2 c3)) (Nat.le_of_ble_eq_true rfl) (by decide) rfl rfl mP_x (mP_k (fun w3 q1 => ?_))
        refine mW_aload_n (j := 0) dX9_takeLeast_52 rfl rfl ?_
        refine mW_aload_n (j := 1) dX9_takeLeast_53 rfl rfl ?_
        refine mW_callV (As := [.ref a1]) (rest := []) (kc2 := 0) (ks2 := 0) dX9_takeLeast_54 l_X9_63 rfl (s2k (mS2.of q1.1.1) h2) rfl (by decide) (rX9_moveIndexes (w := w3) (a0 := a0) (a1 := a1) (zTun_s2 (mS2.of q1.1.1) h3) (zGrid_s2 (mS2.of q1.1.1) h4) (s13 c1 c2 c3 w3 q1) (s14 c1 c2 c3 w3 q1) (s8 c1 c2 c3) (s15 c1 c2 c3 w3 q1) (s16 c1 c2 c3 w3 q1)) (Nat.le_of_ble_eq_true rfl) (by decide) rfl rfl mP_x (mP_k (fun w4 q2 => ?_))
        refine mW_iinc (j := 4) (v := x4 + 1) (lv2 := [(4, .int (x4 + 1)), (0, .ref a0), (1, .ref a1), (2, .ref a2), (3, .int x3)]) dX9_takeLeast_57 rfl rfl (by decide) rfl ?_
        refine mW_goto (tgt := 12) dX9_takeLeast_60 (by decide) ?_
        refine mW_loc [1, 2, 3, 4, 0] (lv2 := [(0, .ref a0), (1, .ref a1), (2, .ref a2), (3, .int x3), (4, .int (x4 + 1))]) rfl ?_
        exact k3 c1 c2 c3 w3 q1 w4 q2
      · refine mW_aload_n (j := 0) dX9_takeLeast_31 rfl rfl ?_
        refine mW_getR dX9_takeLeast_32 f_X9_25 h2 rfl h6 ?_
        refine mW_iload (j := 4) dX9_takeLeast_35 rfl ?_
        refine mW_laldJ dX9_takeLeast_37 h7 (s17 c1 c2 c3) rfl ?_
        refine mW_aload_n (j := 2) dX9_takeLeast_38 rfl rfl ?_
        refine mW_get dX9_takeLeast_39 f_X9_86 h1 rfl ?_
        refine mW_lcmp dX9_takeLeast_42 ?_
        refine mW_if_ge (tgt := 52) dX9_takeLeast_43 (by decide) (fun c4 => ?_) (fun c4 => ?_)
        · refine mW_aload_n (j := 0) dX9_takeLeast_52 rfl rfl ?_
          refine mW_aload_n (j := 1) dX9_takeLeast_53 rfl rfl ?_
          refine mW_callV (As := [.ref a1]) (rest := []) (kc2 := 0) (ks2 := 0) dX9_takeLeast_54 l_X9_63 rfl h2 rfl (by decide) (rX9_moveIndexes (w := w) (a0 := a0) (a1 := a1) h3 h4 (s18 c1 c2 c3 c4) (s19 c1 c2 c3 c4) (s20 c1 c2 c3 c4) (s21 c1 c2 c3 c4) (s22 c1 c2 c3 c4)) (Nat.le_of_ble_eq_true rfl) (by decide) rfl rfl mP_x (mP_k (fun w5 q3 => ?_))
          refine mW_iinc (j := 4) (v := x4 + 1) (lv2 := [(4, .int (x4 + 1)), (0, .ref a0), (1, .ref a1), (2, .ref a2), (3, .int x3)]) dX9_takeLeast_57 rfl rfl (by decide) rfl ?_
          refine mW_goto (tgt := 12) dX9_takeLeast_60 (by decide) ?_
          refine mW_loc [1, 2, 3, 4, 0] (lv2 := [(0, .ref a0), (1, .ref a1), (2, .ref a2), (3, .int x3), (4, .int (x4 + 1))]) rfl ?_
          exact k4 c1 c2 c3 c4 w5 q3
        · refine mW_aload_n (j := 0) dX9_takeLeast_46 rfl rfl ?_
          refine mW_aload_n (j := 1) dX9_takeLeast_47 rfl rfl ?_
          refine mW_aload_n (j := 2) dX9_takeLeast_48 rfl rfl ?_
          refine mW_callV (As := [.ref a1, .ref a2]) (rest := []) (kc2 := 0) (ks2 := 0) dX9_takeLeast_49 l_X9_92 rfl h2 rfl (by decide) (rX9_takeIndexes (w := w) (a0 := a0) (a1 := a1) (a2 := a2) h3 h4 h5 (s23 c1 c2 c3 c4) (s24 c1 c2 c3 c4) (s25 c1 c2 c3 c4) (s26 c1 c2 c3 c4) (s27 c1 c2 c3 c4) (s28 c1 c2 c3 c4) (s29 c1 c2 c3 c4) (s30 c1 c2 c3 c4)) (Nat.le_of_ble_eq_true rfl) (by decide) rfl rfl mP_x (mP_k (fun w6 q4 => ?_))
          refine mW_aload_n (j := 0) dX9_takeLeast_52 rfl rfl ?_
          refine mW_aload_n (j := 1) dX9_takeLeast_53 rfl rfl ?_
          refine mW_callV (As := [.ref a1]) (rest := []) (kc2 := 0) (ks2 := 0) dX9_takeLeast_54 l_X9_63 rfl (s2k (mS2.of q4.1.1) h2) rfl (by decide) (rX9_moveIndexes (w := w6) (a0 := a0) (a1 := a1) (zTun_s2 (mS2.of q4.1.1) h3) (zGrid_s2 (mS2.of q4.1.1) h4) (s31 c1 c2 c3 c4 w6 q4) (s32 c1 c2 c3 c4 w6 q4) (s26 c1 c2 c3 c4) (s33 c1 c2 c3 c4 w6 q4) (s34 c1 c2 c3 c4 w6 q4)) (Nat.le_of_ble_eq_true rfl) (by decide) rfl rfl mP_x (mP_k (fun w7 q5 => ?_))
          refine mW_iinc (j := 4) (v := x4 + 1) (lv2 := [(4, .int (x4 + 1)), (0, .ref a0), (1, .ref a1), (2, .ref a2), (3, .int x3)]) dX9_takeLeast_57 rfl rfl (by decide) rfl ?_
          refine mW_goto (tgt := 12) dX9_takeLeast_60 (by decide) ?_
          refine mW_loc [1, 2, 3, 4, 0] (lv2 := [(0, .ref a0), (1, .ref a1), (2, .ref a2), (3, .int x3), (4, .int (x4 + 1))]) rfl ?_
          exact k5 c1 c2 c3 c4 w6 q4 w7 q5
theorem oRep_fr {lo hi : Nat} {w w' : mH} {a m : Nat} {A : Nat → Int32} {q : Nat → Int64} (f : mFr lo hi w w') (h : a + 2 ≤ lo ∨ hi ≤ a) (z : oRep w a A q m) : oRep w' a A q m := by
  unfold oRep at z ⊢
  simp (disch := omega) only [f.hai, f.hfi, f.hfl]
  exact z
theorem gRep_f2 {l1 h1 l2 h2 a : Nat} {w w' : mH} {A : Nat → Int32} (f : mF2 l1 h1 l2 h2 w w') (h : (a + 4 ≤ l1 ∨ h1 ≤ a) ∧ (a + 4 ≤ l2 ∨ h2 ≤ a)) (z : gRep w a A) : gRep w' a A := by
  unfold gRep at z ⊢
  simp (disch := omega) only [f.hai]
  exact z
def lInv (w0 w : mH) (a0 a2 : Nat) (A : Nat → Int32) (m : Nat) : Prop := mF2 (a0 + 17) (a0 + 18) a2 (a2 + 2) w0 w ∧ (m < gT A → jRep w a0 A m) ∧ (0 < m → oRep w a2 A (hal w0 (a0 + 16)) (fBest (hal w0 (a0 + 16)) m))
theorem least_body {G : mG} {w0 w : mH} {a0 a1 a2 m : Nat} {A : Nat → Int32} {Φ : mF} (z0 : zTun w0 a0) (z1 : zGrid w0 a1) (z2 : zFnd w0 a2) (hd1 : a0 + 18 ≤ a1 ∨ a1 + 4 ≤ a0) (hd2 : a0 + 18 ≤ a2 ∨ a2 + 2 ≤ a0) (hd3 : a1 + 4 ≤ a2 ∨ a2 + 2 ≤ a1) (h0 : gRep w0 a1 A) (ok : gOK A) (I : lInv w0 w a0 a2 A m) (ht : m ≤ gT A) (ih : m < gT A → ∀ w', lInv w0 w' a0 a2 A (m + 1) → mW G mX9_takeLeast 5 0 0 12 [(0, .ref a0), (1, .ref a1), (2, .ref a2), (3, .int (nI (gT A))), (4, .int (nI (m + 1)))] [] w' Φ) (hΦ : m = gT A → ∀ w', mFr a2 (a2 + 1) w w' → oRep w' a2 A (hal w0 (a0 + 16)) (fBest (hal w0 (a0 + 16)) m) → hfi w' a2 3 = nI (fGt (hal w0 (a0 + 16)) (hal w0 (a0 + 16) (fBest (hal w0 (a0 + 16)) m)) (gT A)) → Φ (.inl none) w') : mW G mX9_takeLeast 5 0 0 12 [(0, .ref a0), (1, .ref a1), (2, .ref a2), (3, .int (nI (gT A))), (4, .int (nI m))] [] w Φ := by
  obtain ⟨F, hJ, hO⟩ := I
  obtain ⟨t1, t2⟩ := gT_le ok
  have hs : mS2 w0 w := mS2.of F.1
  have hg : gRep w a1 A := gRep_f2 F (by omega) h0
  have hq : hal w (a0 + 16) = hal w0 (a0 + 16) := F.hal (by omega)
  have hc : ¬ nI (gT A) ≤ nI m → m < gT A := fun c => by rw [m_le (by omega) (by omega)] at c; omega
  have hcl : (nI m).toNatClampNeg = m := m_cl (by omega)
  refine gX9_takeLeast_12 (A := A) (i := m / cG A 2 / cG A 1) (j := m / cG A 2 % cG A 1) (k := m % cG A 2) (m := m) (a0_2 := a0 + 16) ((zFnd_s2 hs z2).1) ((zTun_s2 hs z0).1) ((zTun_s2 hs z0)) ((zGrid_s2 hs z1)) (by intros; exact hg) (by intros; exact ok) (by intros; exact hg) (by intros; exact ok) ((zFnd_s2 hs z2)) (by intros; omega) (by intros; omega) (by intros; exact hg) (by intros; exact ok) (by intro c1; intros; exact (j_lt ok (hc c1)).1) (by intro c1; intros; exact (j_lt ok (hc c1)).2.1) (by intro c1; intros; exact (j_lt ok (hc c1)).2.2) (by intro c1; intros; exact hJ (hc c1)) (by intros; omega) (by intro c1 c2; intros; rename_i q9; exact gRep_fr q9.1 (by omega) hg) (by intro c1; intros; exact hc c1) (by intro c1 c2; intros; rename_i q9; exact iRep_fr q9.1 (by omega) (hJ (hc c1))) ((zTun_s2 hs z0).2.2.2.1) ((zTun_s2 hs z0).2.2.2.2.2.2.2.1) (by intro c1; intros; have := hc c1; exact m_vp (by omega) (by omega)) (by intros; omega) (by intros; exact hg) (by intros; exact ok) (by intro c1; intros; exact hc c1) (by intro c1; intros; exact hJ (hc c1)) (by intros; omega) (by intros; omega) (by intros; exact hg) (by intros; exact ok) (by intro c1; intros; exact (j_lt ok (hc c1)).1) (by intro c1; intros; exact (j_lt ok (hc c1)).2.1) (by intro c1; intros; exact (j_lt ok (hc c1)).2.2) (by intro c1; intros; exact hJ (hc c1)) (by intros; omega) (by intro c1 c2; intros; rename_i q9; exact gRep_fr q9.1 (by omega) hg) (by intro c1; intros; exact hc c1) (by intro c1 c2; intros; rename_i q9; exact iRep_fr q9.1 (by omega) (hJ (hc c1))) ?_ ?_ ?_ ?_ ?_
  · intro c1 w1 e1
    rw [m_le (by omega) (by omega)] at c1
    have hm : m = gT A := by omega
    have o := hO (by omega)
    refine hΦ hm w1 (by rw [e1]; exact mFr_sfi mFr.rf (by omega) (by omega)) ?_ ?_
    · obtain ⟨o1, o2, o3, o4, o5⟩ := o
      rw [e1]
      refine ⟨by rw [e_hfi_sfi, up2_k _ _ _ (by decide)]; exact o1, by rw [e_hai_sfi]; exact o2, by rw [e_hai_sfi]; exact o3, by rw [e_hai_sfi]; exact o4, by rw [e_hfl_sfi]; exact o5⟩
    · rw [e1, e_hfi_sfi, up2_at, hq, o.2.2.2.2]
  · intro c1 c2
    have := hc c1
    rw [show (216 : Int32) = nI 216 from rfl, m_le (by omega) (by omega)] at c2
    omega
  · intro c1 c2 c3 w3 q1 w4 q2
    have hm := hc c1
    have hm0 : m = 0 := (nI_eq (b := 0) (by omega) (by omega)).mp c3
    rw [nI_1]
    refine ih hm w4 ⟨(F.tr (q1.1.f2 (by omega) (by omega))).tr (q2.1.f1 (by omega) (by omega)), q2.2, fun _ => ?_⟩
    have hb : fBest (hal w0 (a0 + 16)) (m + 1) = m := by rw [fBest, if_pos hm0]; omega
    rw [hb]
    refine oRep_fr q2.1 (by omega) ⟨q1.2.1, q1.2.2.1, q1.2.2.2.1, q1.2.2.2.2.1, ?_⟩
    rw [q1.2.2.2.2.2.1, hq, fl_j]
  · intro c1 c2 c3 c4 w5 q3
    have hm := hc c1
    have hm0 : ¬ m = 0 := fun h => c3 (by rw [h]; rfl)
    have o := hO (by omega)
    rw [hcl, hq, o.2.2.2.2, lg_cmp_ge] at c4
    rw [nI_1]
    refine ih hm w5 ⟨F.tr (q3.1.f1 (by omega) (by omega)), q3.2, fun _ => ?_⟩
    have hb : fBest (hal w0 (a0 + 16)) (m + 1) = fBest (hal w0 (a0 + 16)) m := by rw [fBest, if_neg hm0, if_neg (Int64.not_lt.mpr c4)]
    rw [hb]
    exact oRep_fr q3.1 (by omega) o
  · intro c1 c2 c3 c4 w6 q4 w7 q5
    have hm := hc c1
    have hm0 : ¬ m = 0 := fun h => c3 (by rw [h]; rfl)
    have o := hO (by omega)
    rw [hcl, hq, o.2.2.2.2, lg_cmp_ge] at c4
    rw [nI_1]
    refine ih hm w7 ⟨(F.tr (q4.1.f2 (by omega) (by omega))).tr (q5.1.f1 (by omega) (by omega)), q5.2, fun _ => ?_⟩
    have hb : fBest (hal w0 (a0 + 16)) (m + 1) = m := by rw [fBest, if_neg hm0, if_pos (Int64.not_le.mp c4)]
    rw [hb]
    refine oRep_fr q5.1 (by omega) ⟨q4.2.1, q4.2.2.1, q4.2.2.2.1, q4.2.2.2.2.1, ?_⟩
    rw [q4.2.2.2.2.2.1, hq, fl_j]
theorem rX9_takeLeast {G : mG} {w : mH} {a0 a1 a2 : Nat} {A : Nat → Int32} (z0 : zTun w a0) (z1 : zGrid w a1) (z2 : zFnd w a2) (hd1 : a0 + 18 ≤ a1 ∨ a1 + 4 ≤ a0) (hd2 : a0 + 18 ≤ a2 ∨ a2 + 2 ≤ a0) (hd3 : a1 + 4 ≤ a2 ∨ a2 + 2 ≤ a1) (hg : gRep w a1 A) (ok : gOK A) : mC G mX9_takeLeast 5 0 0 [.ref a0, .ref a1, .ref a2] w (mP none (fun w' => mSh w w' ∧ mF2 (a0 + 17) (a0 + 18) a2 (a2 + 2) w w' ∧ oRep w' a2 A (hal w (a0 + 16)) (fBest (hal w (a0 + 16)) (gT A)) ∧ hfi w' a2 3 = nI (fGt (hal w (a0 + 16)) (hal w (a0 + 16) (fBest (hal w (a0 + 16)) (gT A))) (gT A)))) := by
  obtain ⟨t1, t2⟩ := gT_le ok
  refine mC_of (by decide +kernel) rfl (Nat.le_of_ble_eq_true rfl) rfl ?_
  refine gX9_takeLeast_0 (A := A) (i := 0) (j := 0) (k := 0) (m := 0) (a1_2 := a1 + 3) (a0_3 := a0 + 17) z1.1 z1.2.2.2.1 z1.2.2.2.2.2.2 (by intros; unfold vp_in; decide) (by intros; unfold vp_in; decide) (by intros; unfold vp_in; decide) z0.1 z0.2.2.2.2.1 z0.2.2.2.2.2.2.2.2 (by intros; unfold vp_in; decide) (by intros; unfold vp_in; decide) (by intros; unfold vp_in; decide) ?_
  intro w1 e1
  obtain ⟨f1, i1⟩ := st_v e1
  rw [show vX1_triples w (a1 + 3) = nI (gT A) from tri_v hg ok]
  have I0 : lInv w w1 a0 a2 A 0 := by
    refine ⟨f1.f1 (by omega) (by omega), fun _ => ?_, fun h => absurd h (Nat.lt_irrefl _)⟩
    unfold jRep
    rw [Nat.zero_div, Nat.zero_div, Nat.zero_mod, Nat.zero_mod]
    exact i1
  have key := m_up0 (N := gT A) (P := fun m => ∀ w', lInv w w' a0 a2 A m → mW G mX9_takeLeast 5 0 0 12 [(0, .ref a0), (1, .ref a1), (2, .ref a2), (3, .int (nI (gT A))), (4, .int (nI m))] [] w' (mP none (fun w' => mSh w w' ∧ mF2 (a0 + 17) (a0 + 18) a2 (a2 + 2) w w' ∧ oRep w' a2 A (hal w (a0 + 16)) (fBest (hal w (a0 + 16)) (gT A)) ∧ hfi w' a2 3 = nI (fGt (hal w (a0 + 16)) (hal w (a0 + 16) (fBest (hal w (a0 + 16)) (gT A))) (gT A))))) ?_ ?_ 0 (by omega)
  · exact key w1 I0
  · intro w' I
    refine least_body z0 z1 z2 hd1 hd2 hd3 hg ok I (Nat.le_refl _) (fun h => absurd h (Nat.lt_irrefl _)) (fun _ w2 f2 o2 g2 => mP_of ?_)
    have F2 := I.1.tr (f2.f2 (by omega) (by omega))
    exact ⟨F2.1, F2, o2, g2⟩
  · intro m hm ih w' I
    exact least_body z0 z1 z2 hd1 hd2 hd3 hg ok I (by omega) (fun _ => ih) (fun h => by omega)
