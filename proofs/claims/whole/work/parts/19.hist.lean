theorem mW_aaldR {G : mG} {M : mM} {d kc ks pc : Nat} {lv : List (Nat × Value)} {st : List Value} {w : mH} {Φ : mF} {a n b : Nat} {i : Int32} (hd : decode M.2.1 pc = .ok (.aaload, 1)) (hkd : hk w a = (21, n)) (hin : vp_in i n) (hr : har w a i.toNatClampNeg = some b) (kk : mW G M d kc ks (pc + 1) lv (.ref b :: st) w Φ) : mW G M d kc ks pc lv (.int i :: .ref a :: st) w Φ := mW_aald hd hkd hin (by rw [hr]; exact kk)
abbrev mX5_put : mM := (yX5_put, cX5_put, 4, none, [])
theorem u869 : (Cond.code ⟨"LineFollowerBench$Table", "insert", "(II)V"⟩ prog_7_method_6_code 4 (none : Option ClassFile.FieldType) : Cond) ∈ mTs := mTs_in 869 (by decide +kernel) (by decide +kernel)
theorem co_X5_insert : mCode mX5_insert := ⟨u869, u73, by decide⟩
theorem u866 : (Cond.methodLink "LineFollowerBench$Table" 30 ⟨"LineFollowerBench$Table", "insert", "(II)V"⟩ : Cond) ∈ mTs := mTs_in 866 (by decide +kernel) (by decide +kernel)
theorem u868 : (Cond.instanceMethod ⟨"LineFollowerBench$Table", "insert", "(II)V"⟩ : Cond) ∈ mTs := mTs_in 868 (by decide +kernel) (by decide +kernel)
theorem u25 : (Cond.selects "LineFollowerBench$Table" ⟨"LineFollowerBench$Table", "insert", "(II)V"⟩ ⟨"LineFollowerBench$Table", "insert", "(II)V"⟩ : Cond) ∈ mTs := mTs_in 25 (by decide +kernel) (by decide +kernel)
theorem l_X5_30 : mLinkV "LineFollowerBench$Table" 30 2 mX5_insert := ⟨⟨by decide, by decide, by decide +kernel⟩, co_X5_insert, u866, u868, u25⟩
set_option maxHeartbeats 4000000 in
set_option maxRecDepth 100000 in
theorem gX5_put_0 {G : mG} {w : mH} {Φ : mF} {a0 : Nat} {x1 x2 : Int32} {A : Nat → Int32} {p_a0 v_a0 n_a0 a0_1 n_a0_1 : Nat} (h1 : hk w a0 = (5, 0)) (h2 : bAt w a0 p_a0 v_a0 n_a0) (h3 : zTab w a0) (s1 : ((vX5_has w a0 (fIdx (hai w p_a0) x1 n_a0 0)) = 0) → (¬ (5 ≤ (hfi w a0 2))) → tRep w a0 A) (s2 : ((vX5_has w a0 (fIdx (hai w p_a0) x1 n_a0 0)) = 0) → (¬ (5 ≤ (hfi w a0 2))) → nPt A < 5) (h4 : hfr w a0 1 = some a0_1) (h5 : hk w a0_1 = (16, n_a0_1)) (s3 : (¬ ((vX5_has w a0 (fIdx (hai w p_a0) x1 n_a0 0)) = 0)) → vp_in (fIdx (hai w p_a0) x1 n_a0 0) n_a0_1) (k1 : ((vX5_has w a0 (fIdx (hai w p_a0) x1 n_a0 0)) = 0) → (5 ≤ (hfi w a0 2)) → Φ (.inl none) w) (k2 : ((vX5_has w a0 (fIdx (hai w p_a0) x1 n_a0 0)) = 0) → (¬ (5 ≤ (hfi w a0 2))) → ∀ w1 : mH, (mFr a0 (a0 + 3) w w1 ∧ tRep w1 a0 (fIn2 (fIns x1 (nPt A) (upd A 29 (A 29 + 1))).1 (fIns x1 (nPt A) (upd A 29 (A 29 + 1))).2 x1 x2)) → Φ (.inl none) w1) (k3 : (¬ ((vX5_has w a0 (fIdx (hai w p_a0) x1 n_a0 0)) = 0)) → ∀ w2 : mH, (w2 = sai w a0_1 ((fIdx (hai w p_a0) x1 n_a0 0).toNatClampNeg) x2) → Φ (.inl none) w2) : mW G mX5_put 3 0 0 0 [(0, .ref a0), (1, .int x1), (2, .int x2)] [] w Φ := by
  refine mW_aload_n (j := 0) dX5_put_0 rfl rfl ?_
  refine mW_iload_n (j := 1) dX5_put_1 rfl rfl ?_
  refine mW_callVe (As := [.int x1]) (rest := []) (kc2 := 0) (ks2 := 0) dX5_put_2 l_X5_22 rfl h1 rfl (by decide) (qX5_indexOf (w := w) (a0 := a0) (x1 := x1) h2) (Nat.le_of_ble_eq_true rfl) (by decide) rfl rfl ?_
  refine mW_istore_n (lv2 := [(3, .int (fIdx (hai w p_a0) x1 n_a0 0)), (0, .ref a0), (1, .int x1), (2, .int x2)]) dX5_put_5 rfl (by decide) rfl ?_
  refine mW_aload_n (j := 1) dX5_put_6 rfl rfl ?_
  refine mW_iload_n (j := 0) dX5_put_7 rfl rfl ?_
  refine mW_callVe (As := [.int (fIdx (hai w p_a0) x1 n_a0 0)]) (rest := []) (kc2 := 0) (ks2 := 0) dX5_put_8 l_X5_26 rfl h1 rfl (by decide) (qX5_has (w := w) (a0 := a0) (x1 := (fIdx (hai w p_a0) x1 n_a0 0)) h1) (Nat.le_of_ble_eq_true rfl) (by decide) rfl rfl ?_
  refine mW_if_eq (tgt := 24) dX5_put_11 (by decide) (fun c1 => ?_) (fun c1 => ?_)
  · refine mW_aload_n (j := 1) dX5_put_24 rfl rfl ?_
    refine mW_get dX5_put_25 f_X5_18 h1 rfl ?_
    refine mW_iconst (v := 5) dX5_put_28 (by decide) ?_
    refine mW_icmp_ge (tgt := 38) dX5_put_29 (by decide) (fun c2 => ?_) (fun c2 => ?_)
    · exact mW_vret dX5_put_38 rfl (k1 c1 c2)
    · refine mW_aload_n (j := 1) dX5_put_32 rfl rfl ?_
      refine mW_iload_n (j := 2) dX5_put_33 rfl rfl ?_
      refine mW_iload_n (j := 3) dX5_put_34 rfl rfl ?_
      refine mW_callV (As := [.int x1, .int x2]) (rest := []) (kc2 := 0) (ks2 := 0) dX5_put_35 l_X5_30 rfl h1 rfl (by decide) (rX5_insert (w := w) (a0 := a0) (x1 := x1) (x2 := x2) h3 (s1 c1 c2) (s2 c1 c2)) (Nat.le_of_ble_eq_true rfl) (by decide) rfl rfl mP_x (mP_k (fun w1 q1 => ?_))
      exact mW_vret dX5_put_38 rfl (k2 c1 c2 w1 q1)
  · refine mW_aload_n (j := 1) dX5_put_14 rfl rfl ?_
    refine mW_getR dX5_put_15 f_X5_15 h1 rfl h4 ?_
    refine mW_iload_n (j := 0) dX5_put_18 rfl rfl ?_
    refine mW_iload_n (j := 3) dX5_put_19 rfl rfl ?_
    refine mW_iastJ dX5_put_20 h5 (s3 c1) rfl ?_
    refine mW_nm (fun w2 e1 => ?_)
    refine mW_goto (tgt := 38) dX5_put_21 (by decide) ?_
    exact mW_vret dX5_put_38 rfl (k3 c1 w2 e1)
theorem rX5_put {G : mG} {w : mH} {a0 : Nat} {x1 x2 : Int32} {A : Nat → Int32} (z0 : zTab w a0) (h : tRep w a0 A) (hr : nPt A < 5 ∨ ¬ fAt A x1 < 0) : mC G mX5_put 3 0 0 [.ref a0, .int x1, .int x2] w (mP none (fun w' => mFr a0 (a0 + 3) w w' ∧ tRep w' a0 (fPut A x1 x2))) := by
  obtain ⟨h3, h1⟩ := tRep_n h
  have hv := has_v (x := x1) h
  have hix : ¬ fAt A x1 < 0 → vp_in (fAt A x1) 5 := fun q => by
    rcases fIdx_spec (X := rX A) (x := x1) (nPt A) 0 with ⟨e, -⟩ | ⟨q', g1, g2, g3, e⟩
    · rw [show fAt A x1 = -1 from e] at q; exact absurd (by decide) q
    · rw [show fAt A x1 = nI q' from e]; exact m_vp (by omega) (by omega)
  refine mC_of (by decide +kernel) rfl (Nat.le_of_ble_eq_true rfl) rfl ?_
  refine gX5_put_0 (a0_1 := a0 + 2) z0.1 (tRep_at z0 h) z0 (by intros; exact h) (by intro c1 c2; rw [h3, m_5 (by omega)] at c2; omega) z0.2.2.1 z0.2.2.2.2 (by intro c1; rw [tRep_idx h] at c1 ⊢; exact hix (fun q => c1 (hv.mpr q))) ?_ ?_ ?_
  · intro c1 c2
    rw [tRep_idx h] at c1
    rw [h3, m_5 (by omega)] at c2
    rcases hr with hr | hr
    · omega
    · exact absurd (hv.mp c1) hr
  · intro c1 c2 w1 q1
    rw [tRep_idx h] at c1
    refine mP_of ⟨q1.1, ?_⟩
    unfold fPut
    rw [if_pos (hv.mp c1)]
    exact q1.2
  · intro c1 w1 e1
    rw [tRep_idx h] at c1 e1
    have hq : ¬ fAt A x1 < 0 := fun q => c1 (hv.mpr q)
    refine mP_of ⟨by rw [e1]; exact mFr_sai mFr.rf (by omega) (by omega), ?_⟩
    unfold fPut
    rw [if_neg hq]
    rcases fIdx_spec (X := rX A) (x := x1) (nPt A) 0 with ⟨e, -⟩ | ⟨q', g1, g2, g3, e⟩
    · rw [show fAt A x1 = -1 from e] at hq; exact absurd (by decide) hq
    · have e' : (fAt A x1).toNatClampNeg = q' := by rw [show fAt A x1 = nI q' from e]; exact m_cl (by omega)
      rw [e'] at e1 ⊢
      obtain ⟨n, n1, n2, n3, n4⟩ := h
      rw [nPt_of n2 (by omega)] at g2
      refine ⟨n, n1, ?_, ?_, fun i hi => ?_⟩
      · rw [fIn2_out (by omega)]; exact n2
      · rw [e1, e_hfi_sai]; exact n3
      · rw [fIn2_x, fIn2_y, e1, e_hai_sai, up2_a _ _ _ (by omega)]
        by_cases hi' : i = q'
        · subst hi'
          rw [up2_at, if_pos rfl, if_pos rfl]
          exact ⟨(n4 i hi).1.trans g3, rfl⟩
        · rw [up2_k _ _ _ hi', if_neg hi', if_neg hi']
          exact n4 i hi
abbrev mX2_setupAt : mM := (yX2_setupAt, cX2_setupAt, 2, (some (.object "LineFollowerBench$Setup")), [])
theorem v815 : (Cond.methodLinkNest "LineFollowerBench$History" 39 ⟨"LineFollowerBench", "isWithin", "(III)Z"⟩ "LineFollowerBench" : Cond) ∈ lw_tbl := List.mem_of_getElem? (i := 815) (by decide +kernel)
theorem l_X2_39 : mLinkSN "LineFollowerBench$History" 39 3 mX10_isWithin "LineFollowerBench" := ⟨⟨by decide, by decide, by decide +kernel⟩, co_X10_isWithin, v815, u523⟩
theorem u237 : (Cond.fieldLink "LineFollowerBench$History" 11 "LineFollowerBench$History" "setups" "[LLineFollowerBench$Setup;" : Cond) ∈ mTs := mTs_in 237 (by decide +kernel) (by decide +kernel)
theorem in_X2 : ∀ w ∈ u_ws RX2 TX2 3, w ∈ mTs := fun w h => mTs_of (L := u_ws RX2 TX2 3) (goodIn_r _ [241, 243, 245] (by decide +kernel) (by decide +kernel)) (by decide +kernel) w h
theorem f_X2_11 : mFld "LineFollowerBench$History" 11 2 0 := ⟨RX2, TX2, 3, "LineFollowerBench$History", rfl, by decide, in_X2, u237, Or.inl rfl, by decide⟩
set_option maxHeartbeats 4000000 in
set_option maxRecDepth 100000 in
theorem gX2_setupAt_0 {G : mG} {w : mH} {Φ : mF} {a0 : Nat} {x1 : Int32} {a0_0 n_a0_0 b_a0_0 : Nat} (h1 : hk w a0 = (2, 0)) (h2 : hfr w a0 0 = some a0_0) (h3 : hk w a0_0 = (21, n_a0_0)) (s1 : (¬ ((vX10_isWithin x1 0 5) = 0)) → vp_in x1 n_a0_0) (h4 : har w a0_0 x1.toNatClampNeg = some b_a0_0) (k1 : ((vX10_isWithin x1 0 5) = 0) → Φ (.inl (some (.null))) w) (k2 : (¬ ((vX10_isWithin x1 0 5) = 0)) → Φ (.inl (some (.ref b_a0_0))) w) : mW G mX2_setupAt 2 0 0 0 [(0, .ref a0), (1, .int x1)] [] w Φ := by
  refine mW_iload_n (j := 1) dX2_setupAt_0 rfl rfl ?_
  refine mW_iconst (v := 0) dX2_setupAt_1 (by decide) ?_
  refine mW_iconst (v := 5) dX2_setupAt_2 (by decide) ?_
  refine mW_callSNe (As := [.int x1, .int 0, .int 5]) (rest := []) (kc2 := 0) (ks2 := 0) dX2_setupAt_3 l_X2_39 rfl (qX10_isWithin (w := w) (x0 := x1) (x1 := 0) (x2 := 5)) (Nat.le_of_ble_eq_true rfl) (by decide) rfl rfl ?_
  refine mW_if_eq (tgt := 18) dX2_setupAt_6 (by decide) (fun c1 => ?_) (fun c1 => ?_)
  · refine mW_anull dX2_setupAt_18 ?_
    exact mW_aret (v := .null) dX2_setupAt_19 rfl (by first | exact Or.inl ⟨_, rfl⟩ | exact Or.inr ⟨_, rfl⟩) (by first | exact Or.inl rfl | exact Or.inr ⟨_, rfl⟩) (k1 c1)
  · refine mW_aload_n (j := 0) dX2_setupAt_9 rfl rfl ?_
    refine mW_getR dX2_setupAt_10 f_X2_11 h1 rfl h2 ?_
    refine mW_iload_n (j := 1) dX2_setupAt_13 rfl rfl ?_
    refine mW_aaldR dX2_setupAt_14 h3 (s1 c1) h4 ?_
    refine mW_goto (tgt := 19) dX2_setupAt_15 (by decide) ?_
    exact mW_aret (v := .ref b_a0_0) dX2_setupAt_19 rfl (by first | exact Or.inl ⟨_, rfl⟩ | exact Or.inr ⟨_, rfl⟩) (by first | exact Or.inl rfl | exact Or.inr ⟨_, rfl⟩) (k2 c1)
theorem m_in {t a b : Nat} (h1 : a ≤ t) (h2 : t ≤ b) (h : b ≤ 70000) : vX10_isWithin (nI t) (nI a) (nI b) = 1 := by
  unfold vX10_isWithin
  rw [if_neg (by rw [m_lt (by omega) (by omega)]; omega), if_neg (by rw [m_lt (by omega) (by omega)]; omega)]
theorem m_nin {t a b : Nat} (h1 : b < t) (h : t ≤ 70000) (h2 : a ≤ 70000) : vX10_isWithin (nI t) (nI a) (nI b) = 0 := by
  unfold vX10_isWithin
  split
  · rfl
  · rw [if_pos (by rw [m_lt (by omega) (by omega)]; omega)]
theorem qX2_setupAt {G : mG} {w : mH} {a0 : Nat} {x1 : Int32} (z : zHis w a0) (hx : x1 = nI x1.toNatClampNeg) (hk : x1.toNatClampNeg < 6) : mC G mX2_setupAt 2 0 0 [.ref a0, .int x1] w (mEq (.inl (some (.ref (a0 + (2 + 17 * x1.toNatClampNeg))))) w) := by
  have hi : vX10_isWithin x1 0 5 = 1 := by rw [hx]; exact m_in (a := 0) (b := 5) (by omega) (by omega) (by omega)
  refine mC_of (by decide +kernel) rfl (Nat.le_of_ble_eq_true rfl) rfl ?_
  refine gX2_setupAt_0 z.1 z.2.1 z.2.2.1 (fun _ => by rw [hx]; exact m_vp (by omega) (by omega)) (z.2.2.2 _ hk).1 (fun c1 => ?_) (fun c1 => mEq_rf)
  rw [hi] at c1
  exact absurd c1 (by decide)
abbrev mX2_remember : mM := (yX2_remember, cX2_remember, 3, none, [])
theorem u238 : (Cond.fieldLink "LineFollowerBench$History" 17 "LineFollowerBench$History" "next" "I" : Cond) ∈ mTs := mTs_in 238 (by decide +kernel) (by decide +kernel)
theorem f_X2_17 : mFld "LineFollowerBench$History" 17 2 1 := ⟨RX2, TX2, 3, "LineFollowerBench$History", rfl, by decide, in_X2, u238, Or.inl rfl, by decide⟩
theorem u814 : (Cond.code ⟨"LineFollowerBench$History", "setupAt", "(I)LLineFollowerBench$Setup;"⟩ prog_4_method_4_code 2 (some (.object "LineFollowerBench$Setup")) : Cond) ∈ mTs := mTs_in 814 (by decide +kernel) (by decide +kernel)
theorem u75 : (Cond.initialized "LineFollowerBench$History" : Cond) ∈ mTs := mTs_in 75 (by decide +kernel) (by decide +kernel)
theorem co_X2_setupAt : mCode mX2_setupAt := ⟨u814, u75, by decide⟩
theorem u811 : (Cond.methodLink "LineFollowerBench$History" 25 ⟨"LineFollowerBench$History", "setupAt", "(I)LLineFollowerBench$Setup;"⟩ : Cond) ∈ mTs := mTs_in 811 (by decide +kernel) (by decide +kernel)
theorem u813 : (Cond.instanceMethod ⟨"LineFollowerBench$History", "setupAt", "(I)LLineFollowerBench$Setup;"⟩ : Cond) ∈ mTs := mTs_in 813 (by decide +kernel) (by decide +kernel)
theorem u24 : (Cond.selects "LineFollowerBench$History" ⟨"LineFollowerBench$History", "setupAt", "(I)LLineFollowerBench$Setup;"⟩ ⟨"LineFollowerBench$History", "setupAt", "(I)LLineFollowerBench$Setup;"⟩ : Cond) ∈ mTs := mTs_in 24 (by decide +kernel) (by decide +kernel)
theorem l_X2_25 : mLinkV "LineFollowerBench$History" 25 1 mX2_setupAt := ⟨⟨by decide, by decide, by decide +kernel⟩, co_X2_setupAt, u811, u813, u24⟩
theorem u694 : (Cond.code ⟨"LineFollowerBench$Setup", "takeOver", "(LLineFollowerBench$Setup;)V"⟩ prog_5_method_2_code 2 (none : Option ClassFile.FieldType) : Cond) ∈ mTs := mTs_in 694 (by decide +kernel) (by decide +kernel)
theorem u71 : (Cond.initialized "LineFollowerBench$Setup" : Cond) ∈ mTs := mTs_in 71 (by decide +kernel) (by decide +kernel)
theorem co_X3_takeOver : mCode mX3_takeOver := ⟨u694, u71, by decide⟩
theorem u816 : (Cond.methodLink "LineFollowerBench$History" 29 ⟨"LineFollowerBench$Setup", "takeOver", "(LLineFollowerBench$Setup;)V"⟩ : Cond) ∈ mTs := mTs_in 816 (by decide +kernel) (by decide +kernel)
theorem u692 : (Cond.instanceMethod ⟨"LineFollowerBench$Setup", "takeOver", "(LLineFollowerBench$Setup;)V"⟩ : Cond) ∈ mTs := mTs_in 692 (by decide +kernel) (by decide +kernel)
theorem u693 : (Cond.selects "LineFollowerBench$Setup" ⟨"LineFollowerBench$Setup", "takeOver", "(LLineFollowerBench$Setup;)V"⟩ ⟨"LineFollowerBench$Setup", "takeOver", "(LLineFollowerBench$Setup;)V"⟩ : Cond) ∈ mTs := mTs_in 693 (by decide +kernel) (by decide +kernel)
theorem l_X2_29 : mLinkV "LineFollowerBench$History" 29 1 mX3_takeOver := ⟨⟨by decide, by decide, by decide +kernel⟩, co_X3_takeOver, u816, u692, u693⟩
theorem p_X2_17 : mPut "LineFollowerBench$History" 17 2 1 (.int) false := ⟨RX2, TX2, 3, "LineFollowerBench$History", tyX2, rfl, by decide, in_X2, u238, Or.inl rfl, by decide, tyX2_ok, nmX2, by decide +kernel, rfl, fun h => by cases h⟩
theorem ob_2_1 (w : mH) (a : Nat) (v : Int32) : mOb (sfi w a 1 v) a 2 = (mOb w a 2).set 1 (.int v) := by simp [mOb, hfi_sfi, hfl_sfi, hfr_sfi, up2]
theorem u239 : (Cond.fieldLink "LineFollowerBench$History" 21 "LineFollowerBench$History" "size" "I" : Cond) ∈ mTs := mTs_in 239 (by decide +kernel) (by decide +kernel)
theorem f_X2_21 : mFld "LineFollowerBench$History" 21 2 2 := ⟨RX2, TX2, 3, "LineFollowerBench$History", rfl, by decide, in_X2, u239, Or.inl rfl, by decide⟩
theorem u817 : (Cond.methodLink "LineFollowerBench$History" 33 ⟨"java/lang/Math", "min", "(II)I"⟩ : Cond) ∈ mTs := mTs_in 817 (by decide +kernel) (by decide +kernel)
theorem p_X2_21 : mPut "LineFollowerBench$History" 21 2 2 (.int) false := ⟨RX2, TX2, 3, "LineFollowerBench$History", tyX2, rfl, by decide, in_X2, u239, Or.inl rfl, by decide, tyX2_ok, nmX2, by decide +kernel, rfl, fun h => by cases h⟩
theorem ob_2_2 (w : mH) (a : Nat) (v : Int32) : mOb (sfi w a 2 v) a 2 = (mOb w a 2).set 2 (.int v) := by simp [mOb, hfi_sfi, hfl_sfi, hfr_sfi, up2]
set_option maxHeartbeats 4000000 in
set_option maxRecDepth 100000 in
theorem gX2_remember_0 {G : mG} {w : mH} {Φ : mF} {a0 a1 : Nat} (h1 : hk w a0 = (2, 0)) (s1 : zHis w a0) (s2 : (hfi w a0 1) = nI (hfi w a0 1).toNatClampNeg) (s3 : (hfi w a0 1).toNatClampNeg < 6) (h2 : hk w (a0 + (2 + 17 * (hfi w a0 1).toNatClampNeg)) = (3, 0)) (h3 : zSet w (a0 + (2 + 17 * (hfi w a0 1).toNatClampNeg))) (h4 : zSet w a1) (s4 : (a0 + (2 + 17 * (hfi w a0 1).toNatClampNeg)) + 17 ≤ a1 ∨ a1 + 17 ≤ (a0 + (2 + 17 * (hfi w a0 1).toNatClampNeg))) (k1 : ∀ w1 : mH, (mFr (a0 + (2 + 17 * (hfi w a0 1).toNatClampNeg)) ((a0 + (2 + 17 * (hfi w a0 1).toNatClampNeg)) + 17) w w1 ∧ ∀ A, sRep w a1 A → sRep w1 (a0 + (2 + 17 * (hfi w a0 1).toNatClampNeg)) A) → ∀ w2 : mH, (w2 = sfi w1 a0 1 (((hfi w1 a0 1) + 1) - ((hfi w1 a0 1) + 1) / 6 * 6)) → ∀ w3 : mH, (w3 = sfi w2 a0 2 (iMin ((hfi w2 a0 2) + 1) 6)) → Φ (.inl none) w3) : mW G mX2_remember 4 0 0 0 [(0, .ref a0), (1, .ref a1)] [] w Φ := by
  refine mW_aload_n (j := 0) dX2_remember_0 rfl rfl ?_
  refine mW_aload_n (j := 0) dX2_remember_1 rfl rfl ?_
  refine mW_get dX2_remember_2 f_X2_17 h1 rfl ?_
  refine mW_callVe (As := [.int (hfi w a0 1)]) (rest := []) (kc2 := 0) (ks2 := 0) dX2_remember_5 l_X2_25 rfl h1 rfl (by decide) (qX2_setupAt (w := w) (a0 := a0) (x1 := hfi w a0 1) s1 s2 s3) (Nat.le_of_ble_eq_true rfl) (by decide) rfl rfl ?_
  refine mW_astore_n (lv2 := [(2, .ref (a0 + (2 + 17 * (hfi w a0 1).toNatClampNeg))), (0, .ref a0), (1, .ref a1)]) dX2_remember_8 rfl (by decide) rfl ?_
  refine mW_aload_n (j := 0) dX2_remember_9 rfl rfl ?_
  refine mW_ifnull dX2_remember_10 ?_
  refine mW_aload_n (j := 0) dX2_remember_13 rfl rfl ?_
  refine mW_aload_n (j := 2) dX2_remember_14 rfl rfl ?_
  refine mW_callV (As := [.ref a1]) (rest := []) (kc2 := 0) (ks2 := 0) dX2_remember_15 l_X2_29 rfl h2 rfl (by decide) (rX3_takeOver (w := w) (a0 := (a0 + (2 + 17 * (hfi w a0 1).toNatClampNeg))) (a1 := a1) h3 h4 s4) (Nat.le_of_ble_eq_true rfl) (by decide) rfl rfl mP_x (mP_k (fun w1 q1 => ?_))
  refine mW_aload_n (j := 1) dX2_remember_18 rfl rfl ?_
  refine mW_aload_n (j := 1) dX2_remember_19 rfl rfl ?_
  refine mW_get dX2_remember_20 f_X2_17 (s2k (mS2.of q1.1.1) h1) rfl ?_
  refine mW_iconst (v := 1) dX2_remember_23 (by decide) ?_
  refine mW_iadd dX2_remember_24 ?_
  refine mW_bipush (v := 6) dX2_remember_25 (by decide) ?_
  refine mW_irem dX2_remember_27 (by decide) ?_
  refine mW_put (ty := .int) (w2 := sfi w1 a0 1 (((hfi w1 a0 1) + 1) - ((hfi w1 a0 1) + 1) / 6 * 6)) dX2_remember_28 p_X2_17 (s2k (mS2.of q1.1.1) h1) (Nat.le_of_ble_eq_true rfl) (by first | rfl | decide | (repeat' split) <;> rfl) rfl (hN_sfi _ _ _ _) (hk_sfi _ _ _ _) (mE_sfi (s2k (mS2.of q1.1.1) h1) (by decide) (ob_2_1 _ _ _)) ?_
  refine mW_nm (fun w2 e1 => ?_)
  refine mW_aload_n (j := 1) dX2_remember_31 rfl rfl ?_
  refine mW_aload_n (j := 1) dX2_remember_32 rfl rfl ?_
  refine mW_get dX2_remember_33 f_X2_21 (s2k (S2_sfi e1) (s2k (mS2.of q1.1.1) h1)) rfl ?_
  refine mW_iconst (v := 1) dX2_remember_36 (by decide) ?_
  refine mW_iadd dX2_remember_37 ?_
  refine mW_bipush (v := 6) dX2_remember_38 (by decide) ?_
  refine mW_mminA dX2_remember_40 u817 u500 u91 u501 (Nat.le_of_ble_eq_true rfl) (by decide) ?_
  refine mW_put (ty := .int) (w2 := sfi w2 a0 2 (iMin ((hfi w2 a0 2) + 1) 6)) dX2_remember_43 p_X2_21 (s2k (S2_sfi e1) (s2k (mS2.of q1.1.1) h1)) (Nat.le_of_ble_eq_true rfl) (by first | rfl | decide | (repeat' split) <;> rfl) rfl (hN_sfi _ _ _ _) (hk_sfi _ _ _ _) (mE_sfi (s2k (S2_sfi e1) (s2k (mS2.of q1.1.1) h1)) (by decide) (ob_2_2 _ _ _)) ?_
  refine mW_nm (fun w3 e2 => ?_)
  exact mW_vret dX2_remember_46 rfl (k1 w1 q1 w2 e1 w3 e2)
abbrev mX2_takeBack : mM := (yX2_takeBack, cX2_takeBack, 4, none, [])
set_option maxHeartbeats 4000000 in
set_option maxRecDepth 100000 in
theorem gX2_takeBack_0 {G : mG} {w : mH} {Φ : mF} {a0 a1 : Nat} (h1 : hk w a0 = (2, 0)) (s1 : zHis w a0) (s2 : ((((hfi w a0 1) + 6) - 1) - (((hfi w a0 1) + 6) - 1) / 6 * 6) = nI ((((hfi w a0 1) + 6) - 1) - (((hfi w a0 1) + 6) - 1) / 6 * 6).toNatClampNeg) (s3 : ((((hfi w a0 1) + 6) - 1) - (((hfi w a0 1) + 6) - 1) / 6 * 6).toNatClampNeg < 6) (h2 : hk w a1 = (3, 0)) (h3 : zSet w a1) (h4 : zSet w (a0 + (2 + 17 * ((((hfi w a0 1) + 6) - 1) - (((hfi w a0 1) + 6) - 1) / 6 * 6).toNatClampNeg))) (s4 : (¬ ((hfi w a0 2) ≤ 0)) → a1 + 17 ≤ (a0 + (2 + 17 * ((((hfi w a0 1) + 6) - 1) - (((hfi w a0 1) + 6) - 1) / 6 * 6).toNatClampNeg)) ∨ (a0 + (2 + 17 * ((((hfi w a0 1) + 6) - 1) - (((hfi w a0 1) + 6) - 1) / 6 * 6).toNatClampNeg)) + 17 ≤ a1) (k1 : ((hfi w a0 2) ≤ 0) → Φ (.inl none) w) (k2 : (¬ ((hfi w a0 2) ≤ 0)) → ∀ w1 : mH, (mFr a1 (a1 + 17) w w1 ∧ ∀ A, sRep w (a0 + (2 + 17 * ((((hfi w a0 1) + 6) - 1) - (((hfi w a0 1) + 6) - 1) / 6 * 6).toNatClampNeg)) A → sRep w1 a1 A) → ∀ w2 : mH, (w2 = sfi w1 a0 1 ((((hfi w a0 1) + 6) - 1) - (((hfi w a0 1) + 6) - 1) / 6 * 6)) → ∀ w3 : mH, (w3 = sfi w2 a0 2 ((hfi w2 a0 2) - 1)) → Φ (.inl none) w3) : mW G mX2_takeBack 4 0 0 0 [(0, .ref a0), (1, .ref a1)] [] w Φ := by
  refine mW_aload_n (j := 0) dX2_takeBack_0 rfl rfl ?_
  refine mW_get dX2_takeBack_1 f_X2_17 h1 rfl ?_
  refine mW_bipush (v := 6) dX2_takeBack_4 (by decide) ?_
  refine mW_iadd dX2_takeBack_6 ?_
  refine mW_iconst (v := 1) dX2_takeBack_7 (by decide) ?_
  refine mW_isub dX2_takeBack_8 ?_
  refine mW_bipush (v := 6) dX2_takeBack_9 (by decide) ?_
  refine mW_irem dX2_takeBack_11 (by decide) ?_
  refine mW_istore_n (lv2 := [(2, .int ((((hfi w a0 1) + 6) - 1) - (((hfi w a0 1) + 6) - 1) / 6 * 6)), (0, .ref a0), (1, .ref a1)]) dX2_takeBack_12 rfl (by decide) rfl ?_
  refine mW_aload_n (j := 1) dX2_takeBack_13 rfl rfl ?_
  refine mW_iload_n (j := 0) dX2_takeBack_14 rfl rfl ?_
  refine mW_callVe (As := [.int ((((hfi w a0 1) + 6) - 1) - (((hfi w a0 1) + 6) - 1) / 6 * 6)]) (rest := []) (kc2 := 0) (ks2 := 0) dX2_takeBack_15 l_X2_25 rfl h1 rfl (by decide) (qX2_setupAt (w := w) (a0 := a0) (x1 := (((hfi w a0 1) + 6) - 1) - (((hfi w a0 1) + 6) - 1) / 6 * 6) s1 s2 s3) (Nat.le_of_ble_eq_true rfl) (by decide) rfl rfl ?_
  refine mW_astore_n (lv2 := [(3, .ref (a0 + (2 + 17 * ((((hfi w a0 1) + 6) - 1) - (((hfi w a0 1) + 6) - 1) / 6 * 6).toNatClampNeg))), (2, .int ((((hfi w a0 1) + 6) - 1) - (((hfi w a0 1) + 6) - 1) / 6 * 6)), (0, .ref a0), (1, .ref a1)]) dX2_takeBack_18 rfl (by decide) rfl ?_
  refine mW_aload_n (j := 2) dX2_takeBack_19 rfl rfl ?_
  refine mW_get dX2_takeBack_20 f_X2_21 h1 rfl ?_
  refine mW_if_le (tgt := 50) dX2_takeBack_23 (by decide) (fun c1 => ?_) (fun c1 => ?_)
  · exact mW_vret dX2_takeBack_50 rfl (k1 c1)
  · refine mW_aload_n (j := 0) dX2_takeBack_26 rfl rfl ?_
    refine mW_ifnull dX2_takeBack_27 ?_
    refine mW_aload_n (j := 3) dX2_takeBack_30 rfl rfl ?_
    refine mW_aload_n (j := 0) dX2_takeBack_31 rfl rfl ?_
    refine mW_callV (As := [.ref (a0 + (2 + 17 * ((((hfi w a0 1) + 6) - 1) - (((hfi w a0 1) + 6) - 1) / 6 * 6).toNatClampNeg))]) (rest := []) (kc2 := 0) (ks2 := 0) dX2_takeBack_32 l_X2_29 rfl h2 rfl (by decide) (rX3_takeOver (w := w) (a0 := a1) (a1 := (a0 + (2 + 17 * ((((hfi w a0 1) + 6) - 1) - (((hfi w a0 1) + 6) - 1) / 6 * 6).toNatClampNeg))) h3 h4 (s4 c1)) (Nat.le_of_ble_eq_true rfl) (by decide) rfl rfl mP_x (mP_k (fun w1 q1 => ?_))
    refine mW_aload_n (j := 2) dX2_takeBack_35 rfl rfl ?_
    refine mW_iload_n (j := 1) dX2_takeBack_36 rfl rfl ?_
    refine mW_put (ty := .int) (w2 := sfi w1 a0 1 ((((hfi w a0 1) + 6) - 1) - (((hfi w a0 1) + 6) - 1) / 6 * 6)) dX2_takeBack_37 p_X2_17 (s2k (mS2.of q1.1.1) h1) (Nat.le_of_ble_eq_true rfl) (by first | rfl | decide | (repeat' split) <;> rfl) rfl (hN_sfi _ _ _ _) (hk_sfi _ _ _ _) (mE_sfi (s2k (mS2.of q1.1.1) h1) (by decide) (ob_2_1 _ _ _)) ?_
    refine mW_nm (fun w2 e1 => ?_)
    refine mW_aload_n (j := 2) dX2_takeBack_40 rfl rfl ?_
    refine mW_dup dX2_takeBack_41 rfl ?_
    refine mW_get dX2_takeBack_42 f_X2_21 (s2k (S2_sfi e1) (s2k (mS2.of q1.1.1) h1)) rfl ?_
    refine mW_iconst (v := 1) dX2_takeBack_45 (by decide) ?_
    refine mW_isub dX2_takeBack_46 ?_
    refine mW_put (ty := .int) (w2 := sfi w2 a0 2 ((hfi w2 a0 2) - 1)) dX2_takeBack_47 p_X2_21 (s2k (S2_sfi e1) (s2k (mS2.of q1.1.1) h1)) (Nat.le_of_ble_eq_true rfl) (by first | rfl | decide | (repeat' split) <;> rfl) rfl (hN_sfi _ _ _ _) (hk_sfi _ _ _ _) (mE_sfi (s2k (S2_sfi e1) (s2k (mS2.of q1.1.1) h1)) (by decide) (ob_2_2 _ _ _)) ?_
    refine mW_nm (fun w3 e2 => ?_)
    exact mW_vret dX2_takeBack_50 rfl (k2 c1 w1 q1 w2 e1 w3 e2)
theorem m_r6 : ∀ n, n < 6 → (nI n + 1) - (nI n + 1) / 6 * 6 = nI ((n + 1) % 6) := by decide +kernel
theorem m_r6b : ∀ n, n < 6 → (nI n + 6 - 1) - (nI n + 6 - 1) / 6 * 6 = nI ((n + 5) % 6) := by decide +kernel
theorem m_mn6 : ∀ n, n < 7 → iMin (nI n + 1) 6 = nI (min (n + 1) 6) := by decide +kernel
/-- the ring: c setups, R 0 the oldest -/
def hRep (w : mH) (a c : Nat) (R : Nat → Nat → Int32) : Prop := ∃ nx, nx < 6 ∧ hfi w a 1 = nI nx ∧ c ≤ 6 ∧ hfi w a 2 = nI c ∧ ∀ i, i < c → sRep w (a + (2 + 17 * ((nx + 6 - c + i) % 6))) (R i)
def hPush (R : Nat → Nat → Int32) (c : Nat) (A : Nat → Int32) : Nat → Nat → Int32 := fun i => if c < 6 then (if i < c then R i else A) else (if i < 5 then R (i + 1) else A)
theorem hRep_fr {lo hi : Nat} {w w' : mH} {a c : Nat} {R : Nat → Nat → Int32} (f : mFr lo hi w w') (h : a + 104 ≤ lo ∨ hi ≤ a) (z : hRep w a c R) : hRep w' a c R := by
  obtain ⟨nx, h1, h2, h3, h4, h5⟩ := z
  refine ⟨nx, h1, by rw [f.hfi (by omega)]; exact h2, h3, by rw [f.hfi (by omega)]; exact h4, fun i hi' => sRep_fr f ?_ (h5 i hi')⟩
  have := Nat.mod_lt (nx + 6 - c + i) (show 0 < 6 by decide)
  omega
theorem rX2_remember {G : mG} {w : mH} {a0 a1 c : Nat} {R : Nat → Nat → Int32} {A : Nat → Int32} (z0 : zHis w a0) (z1 : zSet w a1) (hd : a1 + 17 ≤ a0 ∨ a0 + 104 ≤ a1) (h : hRep w a0 c R) (hA : sRep w a1 A) : mC G mX2_remember 4 0 0 [.ref a0, .ref a1] w (mP none (fun w' => mFr a0 (a0 + 104) w w' ∧ hRep w' a0 (min (c + 1) 6) (hPush R c A))) := by
  obtain ⟨nx, h1, h2, h3, h4, h5⟩ := h
  have hn : (hfi w a0 1).toNatClampNeg = nx := by rw [h2]; exact m_cl (by omega)
  have zs := (z0.2.2.2 nx h1).2
  refine mC_of (by decide +kernel) rfl (Nat.le_of_ble_eq_true rfl) rfl ?_
  refine gX2_remember_0 z0.1 z0 (by rw [hn]; exact h2) (by rw [hn]; exact h1) (by rw [hn]; exact zs.1) (by rw [hn]; exact zs) z1 (by rw [hn]; omega) ?_
  rw [hn]
  intro w1 q1 w2 e1 w3 e2
  obtain ⟨f1, r1⟩ := q1
  have g1 : hfi w1 a0 = hfi w a0 := f1.hfi (by omega)
  rw [g1, h2, m_r6 nx h1] at e1
  have g2 : hfi w2 a0 2 = nI c := by rw [e1, e_hfi_sfi, up2_k _ _ _ (by decide), g1]; exact h4
  rw [g2, m_mn6 c (by omega)] at e2
  have F1 : mFr a0 (a0 + 104) w w1 := f1.wide (by omega) (by omega)
  have F2 : mFr a0 (a0 + 1) w1 w3 := by rw [e2, e1]; exact mFr_sfi (mFr_sfi mFr.rf (by omega) (by omega)) (by omega) (by omega)
  refine mP_of ⟨F1.tr (F2.wide (by omega) (by omega)), (nx + 1) % 6, Nat.mod_lt _ (by decide), ?_, by omega, ?_, fun i hi => ?_⟩
  · rw [e2, e_hfi_sfi, up2_k _ _ _ (by decide), e1, e_hfi_sfi, up2_at]
  · rw [e2, e_hfi_sfi, up2_at]
  · have hnew : sRep w1 (a0 + (2 + 17 * nx)) A := r1 A hA
    have hold : ∀ j, j < 6 → j ≠ nx → ∀ A', sRep w (a0 + (2 + 17 * j)) A' → sRep w1 (a0 + (2 + 17 * j)) A' := fun j hj hjn A' hs => sRep_fr f1 (by omega) hs
    refine sRep_fr F2 (by omega) ?_
    unfold hPush
    by_cases hc : c < 6
    · rw [if_pos hc]
      have hm : min (c + 1) 6 = c + 1 := by omega
      rw [hm] at hi ⊢
      have e9 : ((nx + 1) % 6 + 6 - (c + 1) + i) % 6 = (nx + 6 - c + i) % 6 := by omega
      rw [e9]
      by_cases hic : i < c
      · rw [if_pos hic]
        exact hold _ (Nat.mod_lt _ (by decide)) (by omega) _ (h5 i hic)
      · rw [if_neg hic]
        have : (nx + 6 - c + i) % 6 = nx := by omega
        rw [this]; exact hnew
    · rw [if_neg hc]
      have hc6 : c = 6 := by omega
      subst hc6
      have e9 : ((nx + 1) % 6 + 6 - min (6 + 1) 6 + i) % 6 = (nx + 1 + i) % 6 := by omega
      rw [e9]
      by_cases hic : i < 5
      · rw [if_pos hic]
        have e8 : (nx + 1 + i) % 6 = (nx + 6 - 6 + (i + 1)) % 6 := by omega
        rw [e8]
        exact hold _ (Nat.mod_lt _ (by decide)) (by omega) _ (h5 (i + 1) (by omega))
      · rw [if_neg hic]
        have : (nx + 1 + i) % 6 = nx := by omega
        rw [this]; exact hnew
theorem rX2_takeBack {G : mG} {w : mH} {a0 a1 c : Nat} {R : Nat → Nat → Int32} (z0 : zHis w a0) (z1 : zSet w a1) (hd : a1 + 17 ≤ a0 ∨ a0 + 104 ≤ a1) (h : hRep w a0 (c + 1) R) : mC G mX2_takeBack 4 0 0 [.ref a0, .ref a1] w (mP none (fun w' => mSh w w' ∧ (∃ w1, mFr a1 (a1 + 17) w w1 ∧ mFr a0 (a0 + 1) w1 w') ∧ hRep w' a0 c R ∧ sRep w' a1 (R c))) := by
  obtain ⟨nx, h1, h2, h3, h4, h5⟩ := h
  have hr : (((hfi w a0 1) + 6) - 1) - (((hfi w a0 1) + 6) - 1) / 6 * 6 = nI ((nx + 5) % 6) := by rw [h2]; exact m_r6b nx h1
  have hm := Nat.mod_lt (nx + 5) (show 0 < 6 by decide)
  have hn : ((((hfi w a0 1) + 6) - 1) - (((hfi w a0 1) + 6) - 1) / 6 * 6).toNatClampNeg = (nx + 5) % 6 := by rw [hr]; exact m_cl (by omega)
  have zs := (z0.2.2.2 _ hm).2
  refine mC_of (by decide +kernel) rfl (Nat.le_of_ble_eq_true rfl) rfl ?_
  refine gX2_takeBack_0 z0.1 z0 (by rw [hn]; exact hr) (by rw [hn]; exact hm) z1.1 z1 (by rw [hn]; exact zs) (by rw [hn]; omega) ?_ ?_
  · intro c1
    rw [h4, m_le0 (by omega)] at c1
    omega
  · rw [hn, hr]
    intro c1 w1 q1 w2 e1 w3 e2
    obtain ⟨f1, r1⟩ := q1
    have g1 : hfi w1 a0 = hfi w a0 := f1.hfi (by omega)
    have g2 : hfi w2 a0 2 = nI (c + 1) := by rw [e1, e_hfi_sfi, up2_k _ _ _ (by decide), g1]; exact h4
    rw [g2, m_sub1] at e2
    have F2 : mFr a0 (a0 + 1) w1 w3 := by rw [e2, e1]; exact mFr_sfi (mFr_sfi mFr.rf (by omega) (by omega)) (by omega) (by omega)
    refine mP_of ⟨f1.1.tr F2.1, ⟨w1, f1, F2⟩, ⟨(nx + 5) % 6, hm, ?_, by omega, ?_, fun i hi => ?_⟩, ?_⟩
    · rw [e2, e_hfi_sfi, up2_k _ _ _ (by decide), e1, e_hfi_sfi, up2_at]
    · rw [e2, e_hfi_sfi, up2_at]
    · have e9 : ((nx + 5) % 6 + 6 - c + i) % 6 = (nx + 6 - (c + 1) + i) % 6 := by omega
      rw [e9]
      have := Nat.mod_lt (nx + 6 - (c + 1) + i) (show 0 < 6 by decide)
      exact sRep_fr F2 (by omega) (sRep_fr f1 (by omega) (h5 i (by omega)))
    · have e9 : (nx + 5) % 6 = (nx + 6 - (c + 1) + c) % 6 := by omega
      refine sRep_fr F2 (by omega) (r1 _ ?_)
      rw [e9]
      exact h5 c (by omega)
