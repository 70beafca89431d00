/-! reading a setup by its row A; Simulation.prepare; the run of a setup -/
def nSg (A : Nat → Int32) : Nat := (A 40).toNatClampNeg
def nPs (A : Nat → Int32) : Nat := (A 65).toNatClampNeg
def aCur (A : Nat → Int32) (x : Int32) : Int32 := fCur (rK A) (rL A) (rC A) (nSg A) 0 x
def aPus (A : Nat → Int32) (x : Int32) : Int32 := fPus (rF A) (rV A) (rW A) x (nPs A)
def aTab (A : Nat → Int32) (x : Int32) : Int32 := fRaw (rX A) (rY A) (nPt A) x
def aLen (A : Nat → Int32) : Int32 := fLen (rL A) (nSg A)
theorem fCur_congr {K L C K' L' C' : Nat → Int32} : ∀ j i x, (∀ q, i ≤ q → q < i + j → K q = K' q ∧ L q = L' q ∧ C q = C' q) → fCur K L C j i x = fCur K' L' C' j i x
  | 0, i, x, _ => rfl
  | j + 1, i, x, h => by
    obtain ⟨h1, h2, h3⟩ := h i (Nat.le_refl _) (by omega)
    rw [fCur, fCur, h2, fCur_congr j (i + 1) _ (fun q g1 g2 => h q (by omega) (by omega))]
    simp only [fCin, h1, h2, h3]
theorem fPus_congr {F V L F' V' L' : Nat → Int32} {x : Int32} : ∀ k, (∀ q, q < k → F q = F' q ∧ V q = V' q ∧ L q = L' q) → fPus F V L x k = fPus F' V' L' x k
  | 0, _ => rfl
  | k + 1, h => by
    obtain ⟨h1, h2, h3⟩ := h k (by omega)
    rw [fPus, fPus, h1, h2, h3, fPus_congr k (fun q g => h q (by omega))]
theorem fLen_congr {L L' : Nat → Int32} : ∀ k, (∀ q, q < k → L q = L' q) → fLen L k = fLen L' k
  | 0, _ => rfl
  | k + 1, h => by rw [fLen, fLen, h k (by omega), fLen_congr k (fun q g => h q (by omega))]
theorem fBet_congr {X Y X' Y' : Nat → Int32} {i : Nat} {x : Int32} (h1 : X i = X' i ∧ Y i = Y' i) (h2 : X (i + 1) = X' (i + 1) ∧ Y (i + 1) = Y' (i + 1)) : fBet X Y i x = fBet X' Y' i x := by
  simp only [fBet, h1.1, h1.2, h2.1, h2.2]
theorem fRawL_congr {X Y X' Y' : Nat → Int32} {n : Nat} {x : Int32} (hn : 0 < n) (h : ∀ q, q < n → X q = X' q ∧ Y q = Y' q) : ∀ j i, i + j + 1 = n → fRawL X Y n x j i = fRawL X' Y' n x j i
  | 0, i, _ => by rw [fRawL, fRawL]; exact (h (n - 1) (by omega)).2
  | j + 1, i, e => by
    rw [fRawL, fRawL, (h (i + 1) (by omega)).1, fRawL_congr hn h j (i + 1) (by omega), fBet_congr (h i (by omega)) (h (i + 1) (by omega))]
theorem fRaw_congr {X Y X' Y' : Nat → Int32} {n : Nat} {x : Int32} (h : ∀ q, q < n → X q = X' q ∧ Y q = Y' q) : fRaw X Y n x = fRaw X' Y' n x := by
  unfold fRaw
  by_cases hn : n = 0
  · rw [if_pos hn, if_pos hn]
  · rw [if_neg hn, if_neg hn, (h 0 (by omega)).1, (h 0 (by omega)).2, fRawL_congr (by omega) h (n - 1) 0 (by omega)]
theorem sTab_rep {w : mH} {a : Nat} {A : Nat → Int32} (h : tRep w a A) : sTab w a = aTab A := by
  obtain ⟨n, h1, h2, h3, h4⟩ := h
  funext x
  unfold sTab aTab
  rw [h3, nPt_of h2 (by omega), m_cl (by omega)]
  exact fRaw_congr (fun q hq => h4 q hq)
def kRo (a : Nat) : Nat → Nat := fun k => if k < 3 then a + 1 + k else a + k
theorem kRep_at {w : mH} {a : Nat} {A : Nat → Int32} (z : zTrk w a) (h : kRep w a A) : kAt w a (kRo a) (nSg A) (nPs A) := by
  obtain ⟨n, m, h1, h2, h3, h4, h5, h6, h7, h8⟩ := h
  have e1 : nSg A = n := by unfold nSg; rw [h3]; exact m_cl (by omega)
  have e2 : nPs A = m := by unfold nPs; rw [h5]; exact m_cl (by omega)
  rw [e1, e2]
  refine ⟨z.1, fun k hk h3 => ?_, fun k hk => ?_, fun k hk hk' => ?_, h4, h1, h6, h2⟩
  · rcases (show k = 0 ∨ k = 1 ∨ k = 2 ∨ k = 4 ∨ k = 5 ∨ k = 6 by omega) with rfl | rfl | rfl | rfl | rfl | rfl
    · exact z.2.1
    · exact z.2.2.1
    · exact z.2.2.2.1
    · exact z.2.2.2.2.1
    · exact z.2.2.2.2.2.1
    · exact z.2.2.2.2.2.2.1
  · rcases (show k = 0 ∨ k = 1 ∨ k = 2 by omega) with rfl | rfl | rfl
    · exact z.2.2.2.2.2.2.2.1
    · exact z.2.2.2.2.2.2.2.2.1
    · exact z.2.2.2.2.2.2.2.2.2.1
  · rcases (show k = 4 ∨ k = 5 ∨ k = 6 by omega) with rfl | rfl | rfl
    · exact z.2.2.2.2.2.2.2.2.2.2.1
    · exact z.2.2.2.2.2.2.2.2.2.2.2.1
    · exact z.2.2.2.2.2.2.2.2.2.2.2.2
theorem qX7_curvatureAt' {G : mG} {w : mH} {a0 : Nat} {x1 : Int32} {A : Nat → Int32} (z : zTrk w a0) (h : kRep w a0 A) : mC G mX7_curvatureAt 2 0 0 [.ref a0, .int x1] w (mEq (.inl (some (.int (aCur A x1)))) w) := by
  have q := qX7_curvatureAt (G := G) (x1 := x1) (kRep_at z h)
  obtain ⟨n, m, h1, h2, h3, h4, h5, h6, h7, h8⟩ := h
  have e1 : nSg A = n := by unfold nSg; rw [h3]; exact m_cl (by omega)
  unfold aCur
  rw [← fCur_congr (K := hai w (kRo a0 0)) (L := hai w (kRo a0 1)) (C := hai w (kRo a0 2)) (K' := rK A) (L' := rL A) (C' := rC A) (nSg A) 0 x1 (fun q _ hq => h7 q (by omega))]
  exact q
theorem qX7_pushAt' {G : mG} {w : mH} {a0 : Nat} {x1 : Int32} {A : Nat → Int32} (z : zTrk w a0) (h : kRep w a0 A) : mC G mX7_pushAt 2 0 0 [.ref a0, .int x1] w (mEq (.inl (some (.int (aPus A x1)))) w) := by
  have q := qX7_pushAt (G := G) (x1 := x1) (kRep_at z h)
  obtain ⟨n, m, h1, h2, h3, h4, h5, h6, h7, h8⟩ := h
  have e1 : nPs A = m := by unfold nPs; rw [h5]; exact m_cl (by omega)
  unfold aPus
  rw [← fPus_congr (F := hai w (kRo a0 4)) (V := hai w (kRo a0 5)) (L := hai w (kRo a0 6)) (F' := rF A) (V' := rV A) (L' := rW A) (nPs A) (fun q hq => h8 q (by omega))]
  exact q
theorem qX7_totalLength' {G : mG} {w : mH} {a0 : Nat} {A : Nat → Int32} (z : zTrk w a0) (h : kRep w a0 A) : mC G mX7_totalLength 1 0 0 [.ref a0] w (mEq (.inl (some (.int (aLen A)))) w) := by
  have q := qX7_totalLength (G := G) (kRep_at z h)
  obtain ⟨n, m, h1, h2, h3, h4, h5, h6, h7, h8⟩ := h
  have e1 : nSg A = n := by unfold nSg; rw [h3]; exact m_cl (by omega)
  unfold aLen
  rw [← fLen_congr (L := hai w (kRo a0 1)) (L' := rL A) (nSg A) (fun q hq => (h7 q (by omega)).2.1)]
  exact q
theorem qX5_rawOutput' {G : mG} {w : mH} {a0 : Nat} {x1 : Int32} {A : Nat → Int32} (z : zTab w a0) (h : tRep w a0 A) : mC G mX5_rawOutput 2 0 0 [.ref a0, .int x1] w (mEq (.inl (some (.int (aTab A x1)))) w) := by
  have q := qX5_rawOutput (G := G) (x1 := x1) (tRep_at z h)
  obtain ⟨n, h1, h2, h3, h4⟩ := h
  unfold aTab
  rw [← fRaw_congr (X := hai w (a0 + 1)) (Y := hai w (a0 + 2)) (X' := rX A) (Y' := rY A) (fun q hq => h4 q (by rw [nPt_of h2 (by omega)] at hq; exact hq))]
  exact q
abbrev mX4_prepare : mM := (yX4_prepare, cX4_prepare, 3, none, [])
theorem u202 : (Cond.fieldLink "LineFollowerBench$Simulation" 59 "LineFollowerBench$Setup" "settings" "[I" : Cond) ∈ mTs := mTs_in 202 (by decide +kernel) (by decide +kernel)
theorem f_X4_59 : mFld "LineFollowerBench$Simulation" 59 3 0 := ⟨RX3, TX3, 5, "LineFollowerBench$Setup", rfl, by decide, in_X3, u202, Or.inl rfl, by decide⟩
theorem v496 : (Cond.methodLinkNest "LineFollowerBench$Simulation" 62 ⟨"LineFollowerBench", "copyRow", "([I[I)V"⟩ "LineFollowerBench" : Cond) ∈ lw_tbl := List.mem_of_getElem? (i := 496) (by decide +kernel)
theorem l_X4_62 : mLinkSN "LineFollowerBench$Simulation" 62 2 mX10_copyRow "LineFollowerBench" := ⟨⟨by decide, by decide, by decide +kernel⟩, co_X10_copyRow, v496, u497⟩
theorem u212 : (Cond.fieldLink "LineFollowerBench$Simulation" 66 "LineFollowerBench$Setup" "table" "LLineFollowerBench$Table;" : Cond) ∈ mTs := mTs_in 212 (by decide +kernel) (by decide +kernel)
theorem f_X4_66 : mFld "LineFollowerBench$Simulation" 66 3 3 := ⟨RX3, TX3, 5, "LineFollowerBench$Setup", rfl, by decide, in_X3, u212, Or.inl rfl, by decide⟩
theorem u505 : (Cond.methodLink "LineFollowerBench$Simulation" 67 ⟨"LineFollowerBench$Table", "takeOver", "(LLineFollowerBench$Table;)V"⟩ : Cond) ∈ mTs := mTs_in 505 (by decide +kernel) (by decide +kernel)
theorem l_X4_67 : mLinkV "LineFollowerBench$Simulation" 67 1 mX5_takeOver := ⟨⟨by decide, by decide, by decide +kernel⟩, co_X5_takeOver, u505, u506, u507⟩
set_option maxHeartbeats 4000000 in
set_option maxRecDepth 100000 in
theorem gX4_prepare_0 {G : mG} {w : mH} {Φ : mF} {a0 a1 a1_0 a0_0 n_a1_0 n_a0_0 a0_1 a1_3 : Nat} (h1 : hk w a1 = (3, 0)) (h2 : hfr w a1 0 = some a1_0) (h3 : hk w a0 = (4, 0)) (h4 : hfr w a0 0 = some a0_0) (h5 : hk w a1_0 = (16, n_a1_0)) (h6 : hk w a0_0 = (16, n_a0_0)) (s1 : n_a0_0 = n_a1_0) (s2 : n_a1_0 ≤ 70000) (h7 : hfr w a0 1 = some a0_1) (h8 : hfr w a1 3 = some a1_3) (h9 : hk w a0_1 = (5, 0)) (h10 : zTab w a0_1) (h11 : zTab w a1_3) (s3 : ∀ w1 : mH, (mFr a0_0 (a0_0 + 1) w w1 ∧ ∀ j, j < n_a1_0 → hai w1 a0_0 j = hai w a1_0 j) → a0_1 + 3 ≤ a1_3 ∨ a1_3 + 3 ≤ a0_1) (k1 : ∀ w1 : mH, (mFr a0_0 (a0_0 + 1) w w1 ∧ ∀ j, j < n_a1_0 → hai w1 a0_0 j = hai w a1_0 j) → ∀ w2 : mH, (mFr a0_1 (a0_1 + 3) w1 w2 ∧ ∀ A, tRep w1 a1_3 A → tRep w2 a0_1 A) → mW G mX4_prepare 3 0 0 24 [(0, .ref a0), (1, .ref a1), (2, .int 0)] [] w2 Φ) : mW G mX4_prepare 3 0 0 0 [(0, .ref a0), (1, .ref a1)] [] w Φ := by
  refine mW_aload_n (j := 1) dX4_prepare_0 rfl rfl ?_
  refine mW_getR dX4_prepare_1 f_X4_59 h1 rfl h2 ?_
  refine mW_aload_n (j := 0) dX4_prepare_4 rfl rfl ?_
  refine mW_getR dX4_prepare_5 f_X4_18 h3 rfl h4 ?_
  refine mW_callSN (As := [.ref a1_0, .ref a0_0]) (rest := []) (kc2 := 0) (ks2 := 0) dX4_prepare_8 l_X4_62 rfl (rX10_copyRow (w := w) (a0 := a1_0) (a1 := a0_0) h5 h6 s1 s2) (Nat.le_of_ble_eq_true rfl) (by decide) rfl rfl mP_x (mP_k (fun w1 q1 => ?_))
  refine mW_aload_n (j := 0) dX4_prepare_11 rfl rfl ?_
  refine mW_getR dX4_prepare_12 f_X4_26 (s2k (mS2.of q1.1.1) h3) rfl (s2r (mS2.of q1.1.1) h7) ?_
  refine mW_aload_n (j := 1) dX4_prepare_15 rfl rfl ?_
  refine mW_getR dX4_prepare_16 f_X4_66 (s2k (mS2.of q1.1.1) h1) rfl (s2r (mS2.of q1.1.1) h8) ?_
  refine mW_callV (As := [.ref a1_3]) (rest := []) (kc2 := 0) (ks2 := 0) dX4_prepare_19 l_X4_67 rfl (s2k (mS2.of q1.1.1) h9) rfl (by decide) (rX5_takeOver (w := w1) (a0 := a0_1) (a1 := a1_3) (zTab_s2 (mS2.of q1.1.1) h10) (zTab_s2 (mS2.of q1.1.1) h11) (s3 w1 q1)) (Nat.le_of_ble_eq_true rfl) (by decide) rfl rfl mP_x (mP_k (fun w2 q2 => ?_))
  refine mW_iconst (v := 0) dX4_prepare_22 (by decide) ?_
  refine mW_istore_n (lv2 := [(2, .int 0), (0, .ref a0), (1, .ref a1)]) dX4_prepare_23 rfl (by decide) rfl ?_
  refine mW_loc [1, 2, 0] (lv2 := [(0, .ref a0), (1, .ref a1), (2, .int 0)]) rfl ?_
  exact k1 w1 q1 w2 q2
theorem u215 : (Cond.fieldLink "LineFollowerBench$Simulation" 71 "LineFollowerBench$Setup" "track" "LLineFollowerBench$Track;" : Cond) ∈ mTs := mTs_in 215 (by decide +kernel) (by decide +kernel)
theorem f_X4_71 : mFld "LineFollowerBench$Simulation" 71 3 4 := ⟨RX3, TX3, 5, "LineFollowerBench$Setup", rfl, by decide, in_X3, u215, Or.inl rfl, by decide⟩
theorem u513 : (Cond.code ⟨"LineFollowerBench$Track", "curvatureAt", "(I)I"⟩ prog_9_method_7_code 4 (some .int) : Cond) ∈ mTs := mTs_in 513 (by decide +kernel) (by decide +kernel)
theorem co_X7_curvatureAt : mCode mX7_curvatureAt := ⟨u513, u74, by decide⟩
theorem u510 : (Cond.methodLink "LineFollowerBench$Simulation" 75 ⟨"LineFollowerBench$Track", "curvatureAt", "(I)I"⟩ : Cond) ∈ mTs := mTs_in 510 (by decide +kernel) (by decide +kernel)
theorem u511 : (Cond.instanceMethod ⟨"LineFollowerBench$Track", "curvatureAt", "(I)I"⟩ : Cond) ∈ mTs := mTs_in 511 (by decide +kernel) (by decide +kernel)
theorem u512 : (Cond.selects "LineFollowerBench$Track" ⟨"LineFollowerBench$Track", "curvatureAt", "(I)I"⟩ ⟨"LineFollowerBench$Track", "curvatureAt", "(I)I"⟩ : Cond) ∈ mTs := mTs_in 512 (by decide +kernel) (by decide +kernel)
theorem l_X4_75 : mLinkV "LineFollowerBench$Simulation" 75 1 mX7_curvatureAt := ⟨⟨by decide, by decide, by decide +kernel⟩, co_X7_curvatureAt, u510, u511, u512⟩
theorem u521 : (Cond.code ⟨"LineFollowerBench$Track", "pushAt", "(I)I"⟩ prog_9_method_9_code 4 (some .int) : Cond) ∈ mTs := mTs_in 521 (by decide +kernel) (by decide +kernel)
theorem co_X7_pushAt : mCode mX7_pushAt := ⟨u521, u74, by decide⟩
theorem u518 : (Cond.methodLink "LineFollowerBench$Simulation" 81 ⟨"LineFollowerBench$Track", "pushAt", "(I)I"⟩ : Cond) ∈ mTs := mTs_in 518 (by decide +kernel) (by decide +kernel)
theorem u519 : (Cond.instanceMethod ⟨"LineFollowerBench$Track", "pushAt", "(I)I"⟩ : Cond) ∈ mTs := mTs_in 519 (by decide +kernel) (by decide +kernel)
theorem u520 : (Cond.selects "LineFollowerBench$Track" ⟨"LineFollowerBench$Track", "pushAt", "(I)I"⟩ ⟨"LineFollowerBench$Track", "pushAt", "(I)I"⟩ : Cond) ∈ mTs := mTs_in 520 (by decide +kernel) (by decide +kernel)
theorem l_X4_81 : mLinkV "LineFollowerBench$Simulation" 81 1 mX7_pushAt := ⟨⟨by decide, by decide, by decide +kernel⟩, co_X7_pushAt, u518, u519, u520⟩
set_option maxHeartbeats 4000000 in
set_option maxRecDepth 100000 in
theorem gX4_prepare_24 {G : mG} {w : mH} {Φ : mF} {a0 a1 : Nat} {x2 : Int32} {A : Nat → Int32} {a0_0 n_a0_0 a0_2 a1_4 n_a0_2 a0_3 n_a0_3 : Nat} (h1 : hk w a0 = (4, 0)) (h2 : hfr w a0 0 = some a0_0) (h3 : hk w a0_0 = (16, n_a0_0)) (s1 : vp_in 13 n_a0_0) (h4 : hfr w a0 2 = some a0_2) (h5 : hk w a1 = (3, 0)) (h6 : hfr w a1 4 = some a1_4) (h7 : hk w a1_4 = (7, 0)) (h8 : zTrk w a1_4) (s2 : (¬ ((hai w a0_0 13) ≤ x2)) → (¬ (200 ≤ x2)) → kRep w a1_4 A) (h9 : hk w a0_2 = (16, n_a0_2)) (s3 : (¬ ((hai w a0_0 13) ≤ x2)) → (¬ (200 ≤ x2)) → vp_in x2 n_a0_2) (h10 : hfr w a0 3 = some a0_3) (s4 : (¬ ((hai w a0_0 13) ≤ x2)) → (¬ (200 ≤ x2)) → ∀ w1 : mH, (w1 = sai w a0_2 x2.toNatClampNeg (aCur A x2)) → kRep w1 a1_4 A) (h11 : hk w a0_3 = (16, n_a0_3)) (s5 : (¬ ((hai w a0_0 13) ≤ x2)) → (¬ (200 ≤ x2)) → ∀ w1 : mH, (w1 = sai w a0_2 x2.toNatClampNeg (aCur A x2)) → vp_in x2 n_a0_3) (k1 : ((hai w a0_0 13) ≤ x2) → Φ (.inl none) w) (k2 : (¬ ((hai w a0_0 13) ≤ x2)) → (200 ≤ x2) → Φ (.inl none) w) (k3 : (¬ ((hai w a0_0 13) ≤ x2)) → (¬ (200 ≤ x2)) → ∀ w1 : mH, (w1 = sai w a0_2 x2.toNatClampNeg (aCur A x2)) → ∀ w2 : mH, (w2 = sai w1 a0_3 x2.toNatClampNeg (aPus A x2)) → mW G mX4_prepare 3 0 0 24 [(0, .ref a0), (1, .ref a1), (2, .int (x2 + 1))] [] w2 Φ) : mW G mX4_prepare 3 0 0 24 [(0, .ref a0), (1, .ref a1), (2, .int x2)] [] w Φ := by
  refine mW_iload_n (j := 2) dX4_prepare_24 rfl rfl ?_
  refine mW_aload_n (j := 0) dX4_prepare_25 rfl rfl ?_
  refine mW_getR dX4_prepare_26 f_X4_18 h1 rfl h2 ?_
  refine mW_bipush (v := 13) dX4_prepare_29 (by decide) ?_
  refine mW_ialdJ dX4_prepare_31 h3 s1 (j := 13) (by decide) ?_
  refine mW_icmp_ge (tgt := 76) dX4_prepare_32 (by decide) (fun c1 => ?_) (fun c1 => ?_)
  · exact mW_vret dX4_prepare_76 rfl (k1 c1)
  · refine mW_iload_n (j := 2) dX4_prepare_35 rfl rfl ?_
    refine mW_sipush (v := 200) dX4_prepare_36 (by decide) ?_
    refine mW_icmp_ge (tgt := 76) dX4_prepare_39 (by decide) (fun c2 => ?_) (fun c2 => ?_)
    · exact mW_vret dX4_prepare_76 rfl (k2 c1 c2)
    · refine mW_aload_n (j := 0) dX4_prepare_42 rfl rfl ?_
      refine mW_getR dX4_prepare_43 f_X4_30 h1 rfl h4 ?_
      refine mW_iload_n (j := 2) dX4_prepare_46 rfl rfl ?_
      refine mW_aload_n (j := 1) dX4_prepare_47 rfl rfl ?_
      refine mW_getR dX4_prepare_48 f_X4_71 h5 rfl h6 ?_
      refine mW_iload_n (j := 2) dX4_prepare_51 rfl rfl ?_
      refine mW_callVe (As := [.int x2]) (rest := [.int x2, .ref a0_2]) (kc2 := 0) (ks2 := 0) dX4_prepare_52 l_X4_75 rfl h7 rfl (by decide) (qX7_curvatureAt' (w := w) (a0 := a1_4) (x1 := x2) h8 (s2 c1 c2)) (Nat.le_of_ble_eq_true rfl) (by decide) rfl rfl ?_
      refine mW_iastJ dX4_prepare_55 h9 (s3 c1 c2) rfl ?_
      refine mW_nm (fun w1 e1 => ?_)
      refine mW_aload_n (j := 0) dX4_prepare_56 rfl rfl ?_
      refine mW_getR dX4_prepare_57 f_X4_33 (s2k (S2_sai e1) h1) rfl (s2r (S2_sai e1) h10) ?_
      refine mW_iload_n (j := 2) dX4_prepare_60 rfl rfl ?_
      refine mW_aload_n (j := 1) dX4_prepare_61 rfl rfl ?_
      refine mW_getR dX4_prepare_62 f_X4_71 (s2k (S2_sai e1) h5) rfl (s2r (S2_sai e1) h6) ?_
      refine mW_iload_n (j := 2) dX4_prepare_65 rfl rfl ?_
      refine mW_callVe (As := [.int x2]) (rest := [.int x2, .ref a0_3]) (kc2 := 0) (ks2 := 0) dX4_prepare_66 l_X4_81 rfl (s2k (S2_sai e1) h7) rfl (by decide) (qX7_pushAt' (w := w1) (a0 := a1_4) (x1 := x2) (zTrk_s2 (S2_sai e1) h8) (s4 c1 c2 w1 e1)) (Nat.le_of_ble_eq_true rfl) (by decide) rfl rfl ?_
      refine mW_iastJ dX4_prepare_69 (s2k (S2_sai e1) h11) (s5 c1 c2 w1 e1) rfl ?_
      refine mW_nm (fun w2 e2 => ?_)
      refine mW_iinc (j := 2) (v := x2 + 1) (lv2 := [(2, .int (x2 + 1)), (0, .ref a0), (1, .ref a1)]) dX4_prepare_70 rfl rfl (by decide) rfl ?_
      refine mW_goto (tgt := 24) dX4_prepare_73 (by decide) ?_
      refine mW_loc [1, 2, 0] (lv2 := [(0, .ref a0), (1, .ref a1), (2, .int (x2 + 1))]) rfl ?_
      exact k3 c1 c2 w1 e1 w2 e2
def pRep (w : mH) (a : Nat) (A : Nat → Int32) (N : Nat) : Prop := (∀ k, k < 15 → hai w (a + 1) k = A k) ∧ tRep w (a + 2) A ∧ ∀ t, t < N → hai w (a + 5) t = aCur A (nI t) ∧ hai w (a + 6) t = aPus A (nI t)
def qInv (w0 w : mH) (a0 : Nat) (A : Nat → Int32) (t : Nat) : Prop := mFr a0 (a0 + 8) w0 w ∧ (∀ k, k < 15 → hai w (a0 + 1) k = A k) ∧ tRep w (a0 + 2) A ∧ ∀ j, j < t → hai w (a0 + 5) j = aCur A (nI j) ∧ hai w (a0 + 6) j = aPus A (nI j)
theorem prep_body {G : mG} {w0 w : mH} {a0 a1 N t : Nat} {A : Nat → Int32} {Φ : mF} (z0 : zSim w0 a0) (z1 : zSet w0 a1) (hd : a0 + 8 ≤ a1 ∨ a1 + 17 ≤ a0) (h : sRep w0 a1 A) (hN : A 13 = nI N) (hN2 : N ≤ 200) (I : qInv w0 w a0 A t) (ht : t ≤ N) (ih : t < N → ∀ w', qInv w0 w' a0 A (t + 1) → mW G mX4_prepare 3 0 0 24 [(0, .ref a0), (1, .ref a1), (2, .int (nI (t + 1)))] [] w' Φ) (hΦ : t = N → Φ (.inl none) w) : mW G mX4_prepare 3 0 0 24 [(0, .ref a0), (1, .ref a1), (2, .int (nI t))] [] w Φ := by
  obtain ⟨F, I1, I2, I3⟩ := I
  have hs : mS2 w0 w := mS2.of F.1
  have h13 : hai w (a0 + 1) 13 = nI N := (I1 13 (by decide)).trans hN
  have hc : ¬ hai w (a0 + 1) 13 ≤ nI t → t < N := fun c => by
    rw [h13, m_le (by omega) (by omega)] at c; omega
  have hk : kRep w (a1 + 10) A := kRep_fr F (by omega) h.2.2.2.2
  have hcl : (nI t).toNatClampNeg = t := m_cl (by omega)
  refine gX4_prepare_24 (a0_0 := a0 + 1) (a0_2 := a0 + 5) (a1_4 := a1 + 10) (a0_3 := a0 + 6) ((zSim_s2 hs z0).1) ((zSim_s2 hs z0).2.1) ((zSim_s2 hs z0).2.2.2.2.2.2.1) (by intros; unfold vp_in; decide) ((zSim_s2 hs z0).2.2.2.1) ((zSet_s2 hs z1).1) ((zSet_s2 hs z1).2.2.2.2.2.1) ((zSet_s2 hs z1).2.2.2.2.2.2.2.2.2.2.1) ((zSet_s2 hs z1).2.2.2.2.2.2.2.2.2.2) (by intros; exact hk) ((zSim_s2 hs z0).2.2.2.2.2.2.2.2.1) (by intro c1; intros; have := hc c1; exact m_vp (by omega) (by omega)) ((zSim_s2 hs z0).2.2.2.2.1) (fun c1 _ w1 e1 => by subst e1; exact kRep_fr (mFr_sai mFr.rf (Nat.le_refl _) (Nat.lt_succ_self _)) (by omega) hk) ((zSim_s2 hs z0).2.2.2.2.2.2.2.2.2.1) (by intro c1; intros; have := hc c1; exact m_vp (by omega) (by omega)) ?_ ?_ ?_
  · intro c1
    refine hΦ ?_
    rw [h13, m_le (by omega) (by omega)] at c1
    omega
  · intro c1 c2
    have := hc c1
    rw [m_200' (by omega)] at c2
    omega
  · intro c1 c2 w1 e1 w2 e2
    have htN := hc c1
    rw [hcl] at e1 e2
    rw [nI_1]
    have F1 : mFr (a0 + 5) (a0 + 7) w w2 := by
      rw [e2, e1]
      exact mFr_sai (mFr_sai mFr.rf (by omega) (by omega)) (by omega) (by omega)
    refine ih htN w2 ⟨F.tr (F1.wide (by omega) (by omega)), fun k hk => ?_, tRep_fr F1 (by omega) I2, fun j hj => ?_⟩
    · rw [F1.hai (by omega)]; exact I1 k hk
    · rw [e2, e_hai_sai, up2_a _ _ _ (show a0 + 5 ≠ a0 + 6 by omega), e1, e_hai_sai]
      by_cases hj' : j = t
      · subst hj'
        rw [up2_at, up2_at]
        exact ⟨rfl, rfl⟩
      · rw [up2_k _ _ _ hj', up2_k _ _ _ hj', up2_a _ _ _ (show a0 + 6 ≠ a0 + 5 by omega)]
        exact I3 j (by omega)
theorem rX4_prepare {G : mG} {w : mH} {a0 a1 N : Nat} {A : Nat → Int32} (z0 : zSim w a0) (z1 : zSet w a1) (hd : a0 + 8 ≤ a1 ∨ a1 + 17 ≤ a0) (h : sRep w a1 A) (hN : A 13 = nI N) (hN2 : N ≤ 200) : mC G mX4_prepare 3 0 0 [.ref a0, .ref a1] w (mP none (fun w' => mFr a0 (a0 + 8) w w' ∧ pRep w' a0 A N)) := by
  refine mC_of (by decide +kernel) rfl (Nat.le_of_ble_eq_true rfl) rfl ?_
  refine gX4_prepare_0 (a1_0 := a1 + 1) (a0_0 := a0 + 1) (a0_1 := a0 + 2) (a1_3 := a1 + 7) z1.1 z1.2.1 z0.1 z0.2.1 z1.2.2.2.2.2.2.1 z0.2.2.2.2.2.2.1 rfl (by decide) z0.2.2.1 z1.2.2.2.2.1 z0.2.2.2.2.2.2.2.1.1 z0.2.2.2.2.2.2.2.1 z1.2.2.2.2.2.2.2.2.2.1 (by intros; omega) ?_
  intro w1 q1 w2 q2
  have F1 : mFr a0 (a0 + 8) w w1 := q1.1.wide (by omega) (by omega)
  have F2 : mFr a0 (a0 + 8) w w2 := F1.tr (q2.1.wide (by omega) (by omega))
  have I0 : qInv w w2 a0 A 0 := by
    refine ⟨F2, fun k hk => ?_, q2.2 A (tRep_fr F1 (by omega) h.2.2.2.1), fun j hj => absurd hj (Nat.not_lt_zero _)⟩
    rw [q2.1.hai (by omega), q1.2 k hk]
    exact h.1 k hk
  have key := m_up0 (N := N) (P := fun t => ∀ w', qInv w w' a0 A t → mW G mX4_prepare 3 0 0 24 [(0, .ref a0), (1, .ref a1), (2, .int (nI t))] [] w' (mP none (fun w' => mFr a0 (a0 + 8) w w' ∧ pRep w' a0 A N))) ?_ ?_ 0 (by omega)
  · exact key w2 I0
  · intro w' I
    exact prep_body z0 z1 hd h hN hN2 I (Nat.le_refl _) (fun h => absurd h (Nat.lt_irrefl _)) (fun _ => mP_of I)
  · intro t ht ih w' I
    exact prep_body z0 z1 hd h hN hN2 I (by omega) (fun _ => ih) (fun h => by omega)
/-! the run as a function of the setup alone -/
theorem pRaw_congr {S S' : Nat → Int32} (h : ∀ k, k < 15 → S k = S' k) (tab : Int32 → Int32) (s ch i out : Int32) : pRaw S tab s ch i out = pRaw S' tab s ch i out := by
  simp only [pRaw, pTwo, pSum, h 0 (by decide), h 1 (by decide), h 2 (by decide), h 3 (by decide), h 7 (by decide), h 8 (by decide), h 10 (by decide), h 11 (by decide)]
theorem pOut_congr {S S' : Nat → Int32} (h : ∀ k, k < 15 → S k = S' k) (tab : Int32 → Int32) (s ch i out : Int32) : pOut S tab s ch i out = pOut S' tab s ch i out := by
  simp only [pOut, pRaw_congr h, h 3 (by decide)]
theorem pInt_congr {S S' : Nat → Int32} (h : ∀ k, k < 15 → S k = S' k) (tab : Int32 → Int32) (s ch i out : Int32) : pInt S tab s ch i out = pInt S' tab s ch i out := by
  simp only [pInt, pKept, pSum, pRaw_congr h, pOut_congr h, h 7 (by decide), h 8 (by decide), h 9 (by decide), h 10 (by decide)]
theorem pSat_congr {S S' : Nat → Int32} (h : ∀ k, k < 15 → S k = S' k) (tab : Int32 → Int32) (s ch i out : Int32) : pSat S tab s ch i out = pSat S' tab s ch i out := by
  simp only [pSat, pRaw_congr h, pOut_congr h]
theorem xN_congr {S S' : Nat → Int32} (h : ∀ k, k < 15 → S k = S' k) {tab : Int32 → Int32} {cu pu cu' pu' : Nat → Int32} {t : Nat} (hc : cu t = cu' t ∧ pu t = pu' t) (σ : xT) : xN S tab cu pu t σ = xN S' tab cu' pu' t σ := by
  have e1 : xH S t σ = xH S' t σ := by simp only [xH, pMeas, h 5 (by decide)]
  have e2 : xD S = xD S' := by simp only [xD, h 6 (by decide)]
  simp only [xN, xNe, xNh, xNa, xNo, xNi, xCh, xSn, e1, e2, pOut_congr h, pInt_congr h, hc.1, hc.2, h 4 (by decide)]
theorem xSt_congr {S S' : Nat → Int32} (h : ∀ k, k < 15 → S k = S' k) {tab : Int32 → Int32} {cu pu cu' pu' : Nat → Int32} {N : Nat} (hc : ∀ t, t < N → cu t = cu' t ∧ pu t = pu' t) : ∀ t, t ≤ N → xSt S tab cu pu t = xSt S' tab cu' pu' t
  | 0, _ => by simp only [xSt, h 12 (by decide)]
  | t + 1, ht => by
    rw [xSt, xSt, xSt_congr h hc t (by omega)]
    exact xN_congr h (hc t (by omega)) _
theorem xW_congr {S S' : Nat → Int32} (h : ∀ k, k < 15 → S k = S' k) {tab : Int32 → Int32} {cu pu cu' pu' : Nat → Int32} {N : Nat} (hc : ∀ t, t < N → cu t = cu' t ∧ pu t = pu' t) (t : Nat) (ht : t < N) : xW S tab cu pu t = xW S' tab cu' pu' t := by
  have e1 : ∀ σ, xH S t σ = xH S' t σ := fun σ => by simp only [xH, pMeas, h 5 (by decide)]
  have e2 : xD S = xD S' := by simp only [xD, h 6 (by decide)]
  simp only [xW, xSt_congr h hc t (by omega), xCh, xSn, e1, e2, pSat_congr h]
theorem xRep_congr {w : mH} {a N : Nat} {S S' : Nat → Int32} (h : ∀ k, k < 15 → S k = S' k) {tab : Int32 → Int32} {cu pu cu' pu' : Nat → Int32} (hc : ∀ t, t < N → cu t = cu' t ∧ pu t = pu' t) (x : xRep w a S tab cu pu N) : xRep w a S' tab cu' pu' N := by
  obtain ⟨h1, h2, h3⟩ := x
  have e1 : ∀ t σ, xH S t σ = xH S' t σ := fun t σ => by simp only [xH, pMeas, h 5 (by decide)]
  have e2 : xD S = xD S' := by simp only [xD, h 6 (by decide)]
  refine ⟨h1, fun t ht => ?_, fun t ht => ?_⟩
  · rw [← xSt_congr h hc t ht]; exact h2 t ht
  · obtain ⟨g1, g2, g3, g4, g5⟩ := h3 t ht
    rw [← xSt_congr h hc t (by omega), ← xSt_congr h hc (t + 1) (by omega), ← xW_congr h hc t ht]
    refine ⟨?_, g2, g3, g4, g5⟩
    rw [g1]
    simp only [xSn, e1, e2]
/-- the run with the settings S of the setup A -/
def aSt (S A : Nat → Int32) : Nat → xT := xSt S (aTab A) (fun t => aCur A (nI t)) (fun t => aPus A (nI t))
def aSat (S A : Nat → Int32) : Nat → Int32 := xW S (aTab A) (fun t => aCur A (nI t)) (fun t => aPus A (nI t))
def aRep (w : mH) (a : Nat) (S A : Nat → Int32) (N : Nat) : Prop := xRep w a S (aTab A) (fun t => aCur A (nI t)) (fun t => aPus A (nI t)) N
theorem pRep_ok {w : mH} {a N : Nat} {A : Nat → Int32} (h : pRep w a A N) : sTabOK w (a + 2) := tRep_ok h.2.1
theorem rX4_run {G : mG} {w : mH} {a0 N : Nat} {S A : Nat → Int32} (z0 : zSim w a0) (z1 : zTra w (a0 + 8)) (hS : ∀ k, k < 15 → hai w (a0 + 1) k = S k) (hT : tRep w (a0 + 2) A) (hc : ∀ t, t < N → hai w (a0 + 5) t = aCur A (nI t) ∧ hai w (a0 + 6) t = aPus A (nI t)) (hn : S 13 = nI N) (h1 : 1 ≤ N) (hN : N ≤ 200) : mC G mX4_makeRun 6 0 0 [.ref a0, .ref (a0 + 8)] w (mP none (fun w' => mFr a0 (a0 + 15) w w' ∧ (∀ b, a0 < b → b < a0 + 7 → hfi w' b = hfi w b ∧ hai w' b = hai w b) ∧ aRep w' (a0 + 8) S A N)) := by
  refine mC_mono (fun o w' h => ?_) (rX4_makeRun z0 z1 (tRep_ok hT) ((hS 13 (by decide)).trans hn) h1 hN)
  obtain ⟨rfl, h2, h3, h4⟩ := h
  rw [sTab_rep hT] at h4
  exact ⟨rfl, h2, h3, xRep_congr hS hc h4⟩
