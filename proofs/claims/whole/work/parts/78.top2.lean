theorem rm_v {n : Nat} {x : Int32} (h : ¬ (if n < 5 then (1 : Int32) else if x < 0 then 0 else 1) = 0) : n < 5 ∨ ¬ x < 0 := by
  by_cases q : n < 5
  · exact Or.inl q
  · by_cases q2 : x < 0
    · rw [if_neg q, if_pos q2] at h; exact absurd rfl h
    · exact Or.inr q2
theorem rm_n {n : Nat} {x : Int32} (h : (if n < 5 then (1 : Int32) else if x < 0 then 0 else 1) = 0) : ¬ n < 5 ∧ x < 0 := by
  by_cases q : n < 5
  · rw [if_pos q] at h; exact absurd h (by decide)
  · by_cases q2 : x < 0
    · exact ⟨q, q2⟩
    · rw [if_neg q, if_neg q2] at h; exact absurd h (by decide)
theorem nPt_5 {A : Nat → Int32} (h : A 29 = nI (nPt A)) (h5 : nPt A ≤ 5) : A 29 = 5 ↔ nPt A = 5 := by
  rw [h]
  exact ⟨fun q => by have := congrArg Int32.toNatClampNeg q; rw [m_cl (by omega)] at this; exact this, fun q => by rw [q]; rfl⟩
theorem tRep_p {w : mH} {a : Nat} {A : Nat → Int32} (h : tRep w a A) : A 29 = nI (nPt A) ∧ nPt A ≤ 5 := by
  obtain ⟨n, h5, e, _, _⟩ := h
  have : nPt A = n := by unfold nPt; rw [e]; exact m_cl (by omega)
  rw [this]; exact ⟨e, h5⟩
theorem fAt_ok {A : Nat → Int32} {x : Int32} (h5 : nPt A ≤ 5) (h : ¬ fAt A x < 0) : fAt A x = nI (fAt A x).toNatClampNeg ∧ (fAt A x).toNatClampNeg < nPt A := by
  rcases fAt_sp (p := x) h5 with ⟨q, _⟩ | ⟨j, hj, _, e⟩
  · exact absurd q h
  · rw [e, m_cl (by omega)]; exact ⟨rfl, hj⟩
theorem tSpt_0 {A : Nat → Int32} {x1 x2 : Int32} (h : A 29 = nI (nPt A)) (h5 : nPt A ≤ 5) (c1 : ¬ vX10_isWithin x1 (-10000) 10000 = 0) (c2 : ¬ vX10_isWithin x2 (-1000) 1000 = 0) (c3 : nPt A < 5 ∨ ¬ fAt A x1 < 0) : tSpt A x1 x2 = 0 := by
  unfold tSpt
  rw [if_neg c1, if_neg c2]
  by_cases q : fAt A x1 < 0
  · rw [if_pos q, if_neg (fun e => by have := (nPt_5 h h5).mp e; exact c3.elim (fun c => absurd c (by omega)) (fun c => c q))]
  · rw [if_neg q]

abbrev mX10_setPoint : mM := (yX10_setPoint, cX10_setPoint, 3, (some .int), [])
theorem u213 : (Cond.fieldLink "LineFollowerBench" 110 "LineFollowerBench$Setup" "table" "LLineFollowerBench$Table;" : Cond) ∈ mTs := mTs_in 213 (by decide +kernel) (by decide +kernel)
theorem f_X10_110 : mFld "LineFollowerBench" 110 3 3 := ⟨RX3, TX3, 5, "LineFollowerBench$Setup", rfl, by decide, in_X3, u213, Or.inl rfl, by decide⟩
theorem u837 : (Cond.code ⟨"LineFollowerBench$Table", "hasRoomAt", "(I)Z"⟩ prog_7_method_4_code 2 (some .boolean) : Cond) ∈ mTs := mTs_in 837 (by decide +kernel) (by decide +kernel)
theorem co_X5_hasRoomAt : mCode mX5_hasRoomAt := ⟨u837, u73, by decide⟩
theorem u834 : (Cond.methodLink "LineFollowerBench" 114 ⟨"LineFollowerBench$Table", "hasRoomAt", "(I)Z"⟩ : Cond) ∈ mTs := mTs_in 834 (by decide +kernel) (by decide +kernel)
theorem u835 : (Cond.instanceMethod ⟨"LineFollowerBench$Table", "hasRoomAt", "(I)Z"⟩ : Cond) ∈ mTs := mTs_in 835 (by decide +kernel) (by decide +kernel)
theorem u836 : (Cond.selects "LineFollowerBench$Table" ⟨"LineFollowerBench$Table", "hasRoomAt", "(I)Z"⟩ ⟨"LineFollowerBench$Table", "hasRoomAt", "(I)Z"⟩ : Cond) ∈ mTs := mTs_in 836 (by decide +kernel) (by decide +kernel)
theorem l_X10_114 : mLinkV "LineFollowerBench" 114 1 mX5_hasRoomAt := ⟨⟨by decide, by decide, by decide +kernel⟩, co_X5_hasRoomAt, u834, u835, u836⟩
theorem u865 : (Cond.code ⟨"LineFollowerBench$Table", "put", "(II)V"⟩ prog_7_method_5_code 4 (none : Option ClassFile.FieldType) : Cond) ∈ mTs := mTs_in 865 (by decide +kernel) (by decide +kernel)
theorem co_X5_put : mCode mX5_put := ⟨u865, u73, by decide⟩
theorem u862 : (Cond.methodLink "LineFollowerBench" 125 ⟨"LineFollowerBench$Table", "put", "(II)V"⟩ : Cond) ∈ mTs := mTs_in 862 (by decide +kernel) (by decide +kernel)
theorem u863 : (Cond.instanceMethod ⟨"LineFollowerBench$Table", "put", "(II)V"⟩ : Cond) ∈ mTs := mTs_in 863 (by decide +kernel) (by decide +kernel)
theorem u864 : (Cond.selects "LineFollowerBench$Table" ⟨"LineFollowerBench$Table", "put", "(II)V"⟩ ⟨"LineFollowerBench$Table", "put", "(II)V"⟩ : Cond) ∈ mTs := mTs_in 864 (by decide +kernel) (by decide +kernel)
theorem l_X10_125 : mLinkV "LineFollowerBench" 125 2 mX5_put := ⟨⟨by decide, by decide, by decide +kernel⟩, co_X5_put, u862, u863, u864⟩
theorem u160 : (Cond.fieldLink "LineFollowerBench" 129 "LineFollowerBench$Table" "size" "I" : Cond) ∈ mTs := mTs_in 160 (by decide +kernel) (by decide +kernel)
theorem f_X10_129 : mFld "LineFollowerBench" 129 5 2 := ⟨RX5, TX5, 3, "LineFollowerBench$Table", rfl, by decide, in_X5, u160, Or.inl rfl, by decide⟩
theorem u846 : (Cond.classLink "LineFollowerBench" 120 "java/lang/IllegalStateException" : Cond) ∈ mTs := mTs_in 846 (by decide +kernel) (by decide +kernel)
theorem u93 : (Cond.initialized "java/lang/IllegalStateException" : Cond) ∈ mTs := mTs_in 93 (by decide +kernel) (by decide +kernel)
theorem th_120_124 : mThr "LineFollowerBench" 120 124 "java/lang/IllegalStateException" ["java/lang/RuntimeException", "java/lang/Exception"] := ⟨by decide +kernel, by decide +kernel, u846, u93, by decide +kernel, by decide⟩
set_option maxHeartbeats 4000000 in
set_option maxRecDepth 100000 in
theorem gX10_setPoint_0 {G : mG} {w : mH} {Φ : mF} {a0 : Nat} {x1 x2 : Int32} {c : Nat} {R : Nat → Nat → Int32} {A : Nat → Int32} {a0_0 a0_0_3 a0_3 : Nat} (h1 : hk w a0 = (10, 0)) (h2 : hfr w a0 0 = some a0_0) (h3 : hk w a0_0 = (3, 0)) (h4 : hfr w a0_0 3 = some a0_0_3) (h5 : hk w a0_0_3 = (5, 0)) (h6 : zTab w a0_0_3) (s1 : (¬ ((vX10_isWithin x1 (-10000) 10000) = 0)) → (¬ ((vX10_isWithin x2 (-1000) 1000) = 0)) → tRep w a0_0_3 A) (h7 : hfr w a0 3 = some a0_3) (h8 : hk w a0_3 = (2, 0)) (h9 : zHis w a0_3) (h10 : zSet w a0_0) (s2 : (¬ ((vX10_isWithin x1 (-10000) 10000) = 0)) → (¬ ((vX10_isWithin x2 (-1000) 1000) = 0)) → (¬ ((if nPt A < 5 then (1 : Int32) else if fAt A x1 < 0 then 0 else 1) = 0)) → a0_0 + 17 ≤ a0_3 ∨ a0_3 + 104 ≤ a0_0) (s3 : (¬ ((vX10_isWithin x1 (-10000) 10000) = 0)) → (¬ ((vX10_isWithin x2 (-1000) 1000) = 0)) → (¬ ((if nPt A < 5 then (1 : Int32) else if fAt A x1 < 0 then 0 else 1) = 0)) → hRep w a0_3 c R) (s4 : (¬ ((vX10_isWithin x1 (-10000) 10000) = 0)) → (¬ ((vX10_isWithin x2 (-1000) 1000) = 0)) → (¬ ((if nPt A < 5 then (1 : Int32) else if fAt A x1 < 0 then 0 else 1) = 0)) → sRep w a0_0 A) (s5 : (¬ ((vX10_isWithin x1 (-10000) 10000) = 0)) → (¬ ((vX10_isWithin x2 (-1000) 1000) = 0)) → (¬ ((if nPt A < 5 then (1 : Int32) else if fAt A x1 < 0 then 0 else 1) = 0)) → ∀ w1 : mH, (mFr a0_3 (a0_3 + 104) w w1 ∧ hRep w1 a0_3 (min (c + 1) 6) (hPush R c A)) → tRep w1 a0_0_3 A) (s6 : (¬ ((vX10_isWithin x1 (-10000) 10000) = 0)) → (¬ ((vX10_isWithin x2 (-1000) 1000) = 0)) → (¬ ((if nPt A < 5 then (1 : Int32) else if fAt A x1 < 0 then 0 else 1) = 0)) → ∀ w1 : mH, (mFr a0_3 (a0_3 + 104) w w1 ∧ hRep w1 a0_3 (min (c + 1) 6) (hPush R c A)) → nPt A < 5 ∨ ¬ fAt A x1 < 0) (k1 : ((vX10_isWithin x1 (-10000) 10000) = 0) → ∀ n, hN w ≤ n → Φ (.inr "java/lang/IllegalArgumentException") (snn w n)) (k2 : (¬ ((vX10_isWithin x1 (-10000) 10000) = 0)) → (¬ ((vX10_isWithin x2 (-1000) 1000) = 0)) → (¬ ((if nPt A < 5 then (1 : Int32) else if fAt A x1 < 0 then 0 else 1) = 0)) → ∀ w1 : mH, (mFr a0_3 (a0_3 + 104) w w1 ∧ hRep w1 a0_3 (min (c + 1) 6) (hPush R c A)) → ∀ w2 : mH, (mFr a0_0_3 (a0_0_3 + 3) w1 w2 ∧ tRep w2 a0_0_3 (fPut A x1 x2)) → Φ (.inl (some (.int (hfi w2 a0_0_3 2)))) w2) (k3 : (¬ ((vX10_isWithin x1 (-10000) 10000) = 0)) → (¬ ((vX10_isWithin x2 (-1000) 1000) = 0)) → ((if nPt A < 5 then (1 : Int32) else if fAt A x1 < 0 then 0 else 1) = 0) → ∀ n, hN w ≤ n → Φ (.inr "java/lang/IllegalStateException") (snn w n)) (k4 : (¬ ((vX10_isWithin x1 (-10000) 10000) = 0)) → ((vX10_isWithin x2 (-1000) 1000) = 0) → ∀ n, hN w ≤ n → Φ (.inr "java/lang/IllegalArgumentException") (snn w n)) : mW G mX10_setPoint 9 1 6 0 [(0, .ref a0), (1, .int x1), (2, .int x2)] [] w Φ := by
  refine mW_iload_n (j := 1) dX10_setPoint_0 rfl rfl ?_
  refine mW_sipush (v := (-10000)) dX10_setPoint_1 (by decide) ?_
  refine mW_sipush (v := 10000) dX10_setPoint_4 (by decide) ?_
  refine mW_callSe (As := [.int x1, .int (-10000), .int 10000]) (rest := []) (kc2 := 1) (ks2 := 6) dX10_setPoint_7 l_X10_78 rfl (qX10_isWithin (w := w) (x0 := x1) (x1 := (-10000)) (x2 := 10000)) (Nat.le_of_ble_eq_true rfl) (by decide) rfl rfl ?_
  refine mW_if_eq (tgt := 26) dX10_setPoint_10 (by decide) (fun c1 => ?_) (fun c1 => ?_)
  · exact mW_thr (text := "the place or the value is out of range") (names := ["java/lang/RuntimeException", "java/lang/Exception"]) dX10_setPoint_26 dX10_setPoint_29 dX10_setPoint_30 dX10_setPoint_32 dX10_setPoint_35 th_96_100 (by decide +kernel) rfl (Nat.le_of_ble_eq_true rfl) (by decide) (by decide) (by decide) (k1 c1)
  · refine mW_iload_n (j := 2) dX10_setPoint_13 rfl rfl ?_
    refine mW_sipush (v := (-1000)) dX10_setPoint_14 (by decide) ?_
    refine mW_sipush (v := 1000) dX10_setPoint_17 (by decide) ?_
    refine mW_callSe (As := [.int x2, .int (-1000), .int 1000]) (rest := []) (kc2 := 1) (ks2 := 6) dX10_setPoint_20 l_X10_78 rfl (qX10_isWithin (w := w) (x0 := x2) (x1 := (-1000)) (x2 := 1000)) (Nat.le_of_ble_eq_true rfl) (by decide) rfl rfl ?_
    refine mW_if_ne (tgt := 36) dX10_setPoint_23 (by decide) (fun c2 => ?_) (fun c2 => ?_)
    · refine mW_aload_n (j := 0) dX10_setPoint_36 rfl rfl ?_
      refine mW_getR dX10_setPoint_37 f_X10_12 h1 rfl h2 ?_
      refine mW_getR dX10_setPoint_40 f_X10_110 h3 rfl h4 ?_
      refine mW_iload_n (j := 1) dX10_setPoint_43 rfl rfl ?_
      refine mW_callVe (As := [.int x1]) (rest := []) (kc2 := 1) (ks2 := 6) dX10_setPoint_44 l_X10_114 rfl h5 rfl (by decide) (rX5_hasRoomAt (w := w) (a0 := a0_0_3) (x1 := x1) h6 (s1 c1 c2)) (Nat.le_of_ble_eq_true rfl) (by decide) rfl rfl ?_
      refine mW_if_ne (tgt := 60) dX10_setPoint_47 (by decide) (fun c3 => ?_) (fun c3 => ?_)
      · refine mW_aload_n (j := 0) dX10_setPoint_60 rfl rfl ?_
        refine mW_getR dX10_setPoint_61 f_X10_26 h1 rfl h7 ?_
        refine mW_aload_n (j := 0) dX10_setPoint_64 rfl rfl ?_
        refine mW_getR dX10_setPoint_65 f_X10_12 h1 rfl h2 ?_
        refine mW_callV (As := [.ref a0_0]) (rest := []) (kc2 := 1) (ks2 := 6) dX10_setPoint_68 l_X10_101 rfl h8 rfl (by decide) (rX2_remember (w := w) (a0 := a0_3) (a1 := a0_0) h9 h10 (s2 c1 c2 c3) (s3 c1 c2 c3) (s4 c1 c2 c3)) (Nat.le_of_ble_eq_true rfl) (by decide) rfl rfl mP_x (mP_k (fun w1 q1 => ?_))
        refine mW_aload_n (j := 0) dX10_setPoint_71 rfl rfl ?_
        refine mW_getR dX10_setPoint_72 f_X10_12 (s2k (mS2.of q1.1.1) h1) rfl (s2r (mS2.of q1.1.1) h2) ?_
        refine mW_getR dX10_setPoint_75 f_X10_110 (s2k (mS2.of q1.1.1) h3) rfl (s2r (mS2.of q1.1.1) h4) ?_
        refine mW_iload_n (j := 1) dX10_setPoint_78 rfl rfl ?_
        refine mW_iload_n (j := 2) dX10_setPoint_79 rfl rfl ?_
        refine mW_callV (As := [.int x1, .int x2]) (rest := []) (kc2 := 1) (ks2 := 6) dX10_setPoint_80 l_X10_125 rfl (s2k (mS2.of q1.1.1) h5) rfl (by decide) (rX5_put (w := w1) (a0 := a0_0_3) (x1 := x1) (x2 := x2) (zTab_s2 (mS2.of q1.1.1) h6) (s5 c1 c2 c3 w1 q1) (s6 c1 c2 c3 w1 q1)) (Nat.le_of_ble_eq_true rfl) (by decide) rfl rfl mP_x (mP_k (fun w2 q2 => ?_))
        refine mW_aload_n (j := 0) dX10_setPoint_83 rfl rfl ?_
        refine mW_getR dX10_setPoint_84 f_X10_12 (s2k (mS2.of q2.1.1) (s2k (mS2.of q1.1.1) h1)) rfl (s2r (mS2.of q2.1.1) (s2r (mS2.of q1.1.1) h2)) ?_
        refine mW_getR dX10_setPoint_87 f_X10_110 (s2k (mS2.of q2.1.1) (s2k (mS2.of q1.1.1) h3)) rfl (s2r (mS2.of q2.1.1) (s2r (mS2.of q1.1.1) h4)) ?_
        refine mW_get dX10_setPoint_90 f_X10_129 (s2k (mS2.of q2.1.1) (s2k (mS2.of q1.1.1) h5)) rfl ?_
        exact mW_iret dX10_setPoint_93 rfl (k2 c1 c2 c3 w1 q1 w2 q2)
      · exact mW_thr (text := "the table is full") (names := ["java/lang/RuntimeException", "java/lang/Exception"]) dX10_setPoint_50 dX10_setPoint_53 dX10_setPoint_54 dX10_setPoint_56 dX10_setPoint_59 th_120_124 (by decide +kernel) rfl (Nat.le_of_ble_eq_true rfl) (by decide) (by decide) (by decide) (k3 c1 c2 c3)
    · exact mW_thr (text := "the place or the value is out of range") (names := ["java/lang/RuntimeException", "java/lang/Exception"]) dX10_setPoint_26 dX10_setPoint_29 dX10_setPoint_30 dX10_setPoint_32 dX10_setPoint_35 th_96_100 (by decide +kernel) rfl (Nat.le_of_ble_eq_true rfl) (by decide) (by decide) (by decide) (k4 c1 c2)
theorem tX10_setPoint {G : mG} {w : mH} {a0 : Nat} {x1 : Int32} {x2 : Int32} {c : Nat} {R : Nat → Nat → Int32} {A : Nat → Int32} (z : zBen w a0) (hH : hRep w (a0 + 35) c R) (hS : sRep w (a0 + 1) A) : mC G mX10_setPoint 9 1 6 [.ref a0, .int x1, .int x2] w (tpO "java/lang/IllegalArgumentException" "java/lang/IllegalStateException" "" (tSpt A x1 x2) (.int (fPut A x1 x2 29)) (fun u => u = w) (fun u => bnO w u a0 c R A (fPut A x1 x2))) := by
  refine mC_of (by decide +kernel) rfl (Nat.le_of_ble_eq_true rfl) rfl ?_
  refine gX10_setPoint_0 (c := c) (R := R) (A := A) (a0_0 := a0 + 1) (a0_0_3 := a0 + 8) (a0_3 := a0 + 35) z.1 z.2.1 z.2.2.2.2.2.2.2.2.2.2.2.1.1 z.2.2.2.2.2.2.2.2.2.2.2.1.2.2.2.2.1 z.2.2.2.2.2.2.2.2.2.2.2.1.2.2.2.2.2.2.2.2.2.1.1 z.2.2.2.2.2.2.2.2.2.2.2.1.2.2.2.2.2.2.2.2.2.1 (by intro c1 c2; exact hS.2.2.2.1) z.2.2.2.1 z.2.2.2.2.2.2.2.2.2.2.2.2.2.1.1 z.2.2.2.2.2.2.2.2.2.2.2.2.2.1 z.2.2.2.2.2.2.2.2.2.2.2.1 (by intro c1 c2 c3; omega) (by intro c1 c2 c3; exact hH) (by intro c1 c2 c3; exact hS) (by intro c1 c2 c3 w1 q1; exact (sRep_fr q1.1 (by omega) hS).2.2.2.1) (by intro c1 c2 c3 w1 q1; exact rm_v c3) ?_ ?_ ?_ ?_
  · intro c1
    exact tp_1 (by unfold tSpt; rw [if_pos c1]) rfl
  · intro c1 c2 c3 w1 q1 w2 q2
    have hp := tRep_p (show tRep w (a0 + 8) A from hS.2.2.2.1)
    have c3' := rm_v c3
    have S1 : sRep w1 (a0 + 1) A := sRep_fr q1.1 (by omega) hS
    have S2 : sRep w2 (a0 + 1) (fPut A x1 x2) := sRep_tab S1 (q2.1.wide (by omega) (by omega)) q2.2 (put_o hp.2 c3')
    refine tp_okv (tSpt_0 hp.1 hp.2 c1 c2 c3') ?_ (bnO_of q1 (q2.1.wide (by omega) (by omega)) S2)
    obtain ⟨n, _, e1, e2, _⟩ := q2.2
    rw [e2, e1]
  · intro c1 c2 c3
    obtain ⟨g1, g2⟩ := rm_n c3
    have hp := tRep_p (show tRep w (a0 + 8) A from hS.2.2.2.1)
    exact tp_2 (by unfold tSpt; rw [if_neg c1, if_neg c2, if_pos g2, if_pos ((nPt_5 hp.1 hp.2).mpr (by omega))]) rfl
  · intro c1 c2
    exact tp_1 (by unfold tSpt; rw [if_neg c1, if_pos c2]) rfl
abbrev mX10_removePoint : mM := (yX10_removePoint, cX10_removePoint, 4, (some .int), [])
theorem u878 : (Cond.methodLink "LineFollowerBench" 133 ⟨"LineFollowerBench$Table", "indexOf", "(I)I"⟩ : Cond) ∈ mTs := mTs_in 878 (by decide +kernel) (by decide +kernel)
theorem l_X10_133 : mLinkV "LineFollowerBench" 133 1 mX5_indexOf := ⟨⟨by decide, by decide, by decide +kernel⟩, co_X5_indexOf, u878, u839, u840⟩
theorem u879 : (Cond.methodLink "LineFollowerBench" 137 ⟨"LineFollowerBench$Table", "has", "(I)Z"⟩ : Cond) ∈ mTs := mTs_in 879 (by decide +kernel) (by decide +kernel)
theorem l_X10_137 : mLinkV "LineFollowerBench" 137 1 mX5_has := ⟨⟨by decide, by decide, by decide +kernel⟩, co_X5_has, u879, u843, u844⟩
theorem u158 : (Cond.fieldLink "LineFollowerBench" 145 "LineFollowerBench$Table" "values" "[I" : Cond) ∈ mTs := mTs_in 158 (by decide +kernel) (by decide +kernel)
theorem f_X10_145 : mFld "LineFollowerBench" 145 5 1 := ⟨RX5, TX5, 3, "LineFollowerBench$Table", rfl, by decide, in_X5, u158, Or.inl rfl, by decide⟩
theorem u899 : (Cond.code ⟨"LineFollowerBench$Table", "removeAt", "(I)V"⟩ prog_7_method_7_code 3 (none : Option ClassFile.FieldType) : Cond) ∈ mTs := mTs_in 899 (by decide +kernel) (by decide +kernel)
theorem co_X5_removeAt : mCode mX5_removeAt := ⟨u899, u73, by decide⟩
theorem u896 : (Cond.methodLink "LineFollowerBench" 148 ⟨"LineFollowerBench$Table", "removeAt", "(I)V"⟩ : Cond) ∈ mTs := mTs_in 896 (by decide +kernel) (by decide +kernel)
theorem u897 : (Cond.instanceMethod ⟨"LineFollowerBench$Table", "removeAt", "(I)V"⟩ : Cond) ∈ mTs := mTs_in 897 (by decide +kernel) (by decide +kernel)
theorem u898 : (Cond.selects "LineFollowerBench$Table" ⟨"LineFollowerBench$Table", "removeAt", "(I)V"⟩ ⟨"LineFollowerBench$Table", "removeAt", "(I)V"⟩ : Cond) ∈ mTs := mTs_in 898 (by decide +kernel) (by decide +kernel)
theorem l_X10_148 : mLinkV "LineFollowerBench" 148 1 mX5_removeAt := ⟨⟨by decide, by decide, by decide +kernel⟩, co_X5_removeAt, u896, u897, u898⟩
theorem u880 : (Cond.classLink "LineFollowerBench" 140 "java/util/NoSuchElementException" : Cond) ∈ mTs := mTs_in 880 (by decide +kernel) (by decide +kernel)
theorem u94 : (Cond.initialized "java/util/NoSuchElementException" : Cond) ∈ mTs := mTs_in 94 (by decide +kernel) (by decide +kernel)
theorem th_140_144 : mThrX "LineFollowerBench" 140 144 "java/util/NoSuchElementException" 13 prog_41_method_4_code ["java/lang/RuntimeException", "java/lang/Exception"] := ⟨by decide +kernel, by decide +kernel, u880, u94, by decide +kernel, by decide, by decide +kernel, by decide +kernel, by decide +kernel, by decide +kernel⟩
set_option maxHeartbeats 4000000 in
set_option maxRecDepth 100000 in
theorem gX10_removePoint_0 {G : mG} {w : mH} {Φ : mF} {a0 : Nat} {x1 : Int32} {c : Nat} {R : Nat → Nat → Int32} {A : Nat → Int32} {a0_0 a0_0_3 a0_3 a0_0_3_1 n_a0_0_3_1 : Nat} (h1 : hk w a0 = (10, 0)) (h2 : hfr w a0 0 = some a0_0) (h3 : hk w a0_0 = (3, 0)) (h4 : hfr w a0_0 3 = some a0_0_3) (h5 : hk w a0_0_3 = (5, 0)) (h6 : zTab w a0_0_3) (s1 : tRep w a0_0_3 A) (h7 : hfr w a0 3 = some a0_3) (h8 : hk w a0_3 = (2, 0)) (h9 : zHis w a0_3) (h10 : zSet w a0_0) (s2 : (¬ ((vX5_has w a0_0_3 (fAt A x1)) = 0)) → a0_0 + 17 ≤ a0_3 ∨ a0_3 + 104 ≤ a0_0) (s3 : (¬ ((vX5_has w a0_0_3 (fAt A x1)) = 0)) → hRep w a0_3 c R) (s4 : (¬ ((vX5_has w a0_0_3 (fAt A x1)) = 0)) → sRep w a0_0 A) (h11 : hfr w a0_0_3 1 = some a0_0_3_1) (h12 : hk w a0_0_3_1 = (16, n_a0_0_3_1)) (s5 : (¬ ((vX5_has w a0_0_3 (fAt A x1)) = 0)) → ∀ w1 : mH, (mFr a0_3 (a0_3 + 104) w w1 ∧ hRep w1 a0_3 (min (c + 1) 6) (hPush R c A)) → vp_in (fAt A x1) n_a0_0_3_1) (s6 : (¬ ((vX5_has w a0_0_3 (fAt A x1)) = 0)) → ∀ w1 : mH, (mFr a0_3 (a0_3 + 104) w w1 ∧ hRep w1 a0_3 (min (c + 1) 6) (hPush R c A)) → tRep w1 a0_0_3 A) (s7 : (¬ ((vX5_has w a0_0_3 (fAt A x1)) = 0)) → ∀ w1 : mH, (mFr a0_3 (a0_3 + 104) w w1 ∧ hRep w1 a0_3 (min (c + 1) 6) (hPush R c A)) → (fAt A x1) = nI (fAt A x1).toNatClampNeg) (s8 : (¬ ((vX5_has w a0_0_3 (fAt A x1)) = 0)) → ∀ w1 : mH, (mFr a0_3 (a0_3 + 104) w w1 ∧ hRep w1 a0_3 (min (c + 1) 6) (hPush R c A)) → (fAt A x1).toNatClampNeg < nPt A) (k1 : (¬ ((vX5_has w a0_0_3 (fAt A x1)) = 0)) → ∀ w1 : mH, (mFr a0_3 (a0_3 + 104) w w1 ∧ hRep w1 a0_3 (min (c + 1) 6) (hPush R c A)) → ∀ w2 : mH, (mFr a0_0_3 (a0_0_3 + 3) w1 w2 ∧ tRep w2 a0_0_3 (fCut A (fAt A x1).toNatClampNeg)) → Φ (.inl (some (.int (hai w1 a0_0_3_1 ((fAt A x1).toNatClampNeg))))) w2) (k2 : ((vX5_has w a0_0_3 (fAt A x1)) = 0) → ∀ n, hN w ≤ n → Φ (.inr "java/util/NoSuchElementException") (snn w n)) : mW G mX10_removePoint 9 1 6 0 [(0, .ref a0), (1, .int x1)] [] w Φ := by
  refine mW_aload_n (j := 0) dX10_removePoint_0 rfl rfl ?_
  refine mW_getR dX10_removePoint_1 f_X10_12 h1 rfl h2 ?_
  refine mW_getR dX10_removePoint_4 f_X10_110 h3 rfl h4 ?_
  refine mW_iload_n (j := 1) dX10_removePoint_7 rfl rfl ?_
  refine mW_callVe (As := [.int x1]) (rest := []) (kc2 := 1) (ks2 := 6) dX10_removePoint_8 l_X10_133 rfl h5 rfl (by decide) (qX5_indexOf' (w := w) (a0 := a0_0_3) (x1 := x1) h6 s1) (Nat.le_of_ble_eq_true rfl) (by decide) rfl rfl ?_
  refine mW_istore_n (lv2 := [(2, .int (fAt A x1)), (0, .ref a0), (1, .int x1)]) dX10_removePoint_11 rfl (by decide) rfl ?_
  refine mW_aload_n (j := 1) dX10_removePoint_12 rfl rfl ?_
  refine mW_getR dX10_removePoint_13 f_X10_12 h1 rfl h2 ?_
  refine mW_getR dX10_removePoint_16 f_X10_110 h3 rfl h4 ?_
  refine mW_iload_n (j := 0) dX10_removePoint_19 rfl rfl ?_
  refine mW_callVe (As := [.int (fAt A x1)]) (rest := []) (kc2 := 1) (ks2 := 6) dX10_removePoint_20 l_X10_137 rfl h5 rfl (by decide) (qX5_has (w := w) (a0 := a0_0_3) (x1 := (fAt A x1)) h5) (Nat.le_of_ble_eq_true rfl) (by decide) rfl rfl ?_
  refine mW_if_ne (tgt := 36) dX10_removePoint_23 (by decide) (fun c1 => ?_) (fun c1 => ?_)
  · refine mW_aload_n (j := 1) dX10_removePoint_36 rfl rfl ?_
    refine mW_getR dX10_removePoint_37 f_X10_26 h1 rfl h7 ?_
    refine mW_aload_n (j := 1) dX10_removePoint_40 rfl rfl ?_
    refine mW_getR dX10_removePoint_41 f_X10_12 h1 rfl h2 ?_
    refine mW_callV (As := [.ref a0_0]) (rest := []) (kc2 := 1) (ks2 := 6) dX10_removePoint_44 l_X10_101 rfl h8 rfl (by decide) (rX2_remember (w := w) (a0 := a0_3) (a1 := a0_0) h9 h10 (s2 c1) (s3 c1) (s4 c1)) (Nat.le_of_ble_eq_true rfl) (by decide) rfl rfl mP_x (mP_k (fun w1 q1 => ?_))
    refine mW_aload_n (j := 1) dX10_removePoint_47 rfl rfl ?_
    refine mW_getR dX10_removePoint_48 f_X10_12 (s2k (mS2.of q1.1.1) h1) rfl (s2r (mS2.of q1.1.1) h2) ?_
    refine mW_getR dX10_removePoint_51 f_X10_110 (s2k (mS2.of q1.1.1) h3) rfl (s2r (mS2.of q1.1.1) h4) ?_
    refine mW_getR dX10_removePoint_54 f_X10_145 (s2k (mS2.of q1.1.1) h5) rfl (s2r (mS2.of q1.1.1) h11) ?_
    refine mW_iload_n (j := 0) dX10_removePoint_57 rfl rfl ?_
    refine mW_ialdJ dX10_removePoint_58 (s2k (mS2.of q1.1.1) h12) (s5 c1 w1 q1) rfl ?_
    refine mW_istore_n (lv2 := [(3, .int (hai w1 a0_0_3_1 ((fAt A x1).toNatClampNeg))), (2, .int (fAt A x1)), (0, .ref a0), (1, .int x1)]) dX10_removePoint_59 rfl (by decide) rfl ?_
    refine mW_aload_n (j := 2) dX10_removePoint_60 rfl rfl ?_
    refine mW_getR dX10_removePoint_61 f_X10_12 (s2k (mS2.of q1.1.1) h1) rfl (s2r (mS2.of q1.1.1) h2) ?_
    refine mW_getR dX10_removePoint_64 f_X10_110 (s2k (mS2.of q1.1.1) h3) rfl (s2r (mS2.of q1.1.1) h4) ?_
    refine mW_iload_n (j := 1) dX10_removePoint_67 rfl rfl ?_
    refine mW_callV (As := [.int (fAt A x1)]) (rest := []) (kc2 := 1) (ks2 := 6) dX10_removePoint_68 l_X10_148 rfl (s2k (mS2.of q1.1.1) h5) rfl (by decide) (rX5_removeAt' (w := w1) (a0 := a0_0_3) (x1 := (fAt A x1)) (zTab_s2 (mS2.of q1.1.1) h6) (s6 c1 w1 q1) (s7 c1 w1 q1) (s8 c1 w1 q1)) (Nat.le_of_ble_eq_true rfl) (by decide) rfl rfl mP_x (mP_k (fun w2 q2 => ?_))
    refine mW_iload_n (j := 0) dX10_removePoint_71 rfl rfl ?_
    exact mW_iret dX10_removePoint_72 rfl (k1 c1 w1 q1 w2 q2)
  · exact mW_thrX (text := "no point at this place") (names := ["java/lang/RuntimeException", "java/lang/Exception"]) dX10_removePoint_26 dX10_removePoint_29 dX10_removePoint_30 dX10_removePoint_32 dX10_removePoint_35 th_140_144 (by decide +kernel) rfl (Nat.le_of_ble_eq_true rfl) (by decide) (by decide) (by decide) (k2 c1)
theorem tX10_removePoint {G : mG} {w : mH} {a0 : Nat} {x1 : Int32} {c : Nat} {R : Nat → Nat → Int32} {A : Nat → Int32} (z : zBen w a0) (hH : hRep w (a0 + 35) c R) (hS : sRep w (a0 + 1) A) : mC G mX10_removePoint 9 1 6 [.ref a0, .int x1] w (tpO "java/util/NoSuchElementException" "" "" (if 0 ≤ fAt A x1 then 0 else 1) (.int (rY A (fAt A x1).toNatClampNeg)) (fun u => u = w) (fun u => bnO w u a0 c R A (fCut A (fAt A x1).toNatClampNeg))) := by
  refine mC_of (by decide +kernel) rfl (Nat.le_of_ble_eq_true rfl) rfl ?_
  refine gX10_removePoint_0 (c := c) (R := R) (A := A) (a0_0 := a0 + 1) (a0_0_3 := a0 + 8) (a0_3 := a0 + 35) (a0_0_3_1 := a0 + 10) z.1 z.2.1 z.2.2.2.2.2.2.2.2.2.2.2.1.1 z.2.2.2.2.2.2.2.2.2.2.2.1.2.2.2.2.1 z.2.2.2.2.2.2.2.2.2.2.2.1.2.2.2.2.2.2.2.2.2.1.1 z.2.2.2.2.2.2.2.2.2.2.2.1.2.2.2.2.2.2.2.2.2.1 (by exact hS.2.2.2.1) z.2.2.2.1 z.2.2.2.2.2.2.2.2.2.2.2.2.2.1.1 z.2.2.2.2.2.2.2.2.2.2.2.2.2.1 z.2.2.2.2.2.2.2.2.2.2.2.1 (by intro c1; omega) (by intro c1; exact hH) (by intro c1; exact hS) z.2.2.2.2.2.2.2.2.2.2.2.1.2.2.2.2.2.2.2.2.2.1.2.2.1 z.2.2.2.2.2.2.2.2.2.2.2.1.2.2.2.2.2.2.2.2.2.1.2.2.2.2 (by intro c1 w1 q1; have hf := fAt_ok (tRep_p (show tRep w (a0 + 8) A from hS.2.2.2.1)).2 (fun q => c1 ((has_v (show tRep w (a0 + 8) A from hS.2.2.2.1)).mpr q)); have h5 := (tRep_p (show tRep w (a0 + 8) A from hS.2.2.2.1)).2; rw [hf.1]; exact m_vp (by omega) (by decide)) (by intro c1 w1 q1; exact (sRep_fr q1.1 (by omega) hS).2.2.2.1) (by intro c1 w1 q1; exact (fAt_ok (tRep_p (show tRep w (a0 + 8) A from hS.2.2.2.1)).2 (fun q => c1 ((has_v (show tRep w (a0 + 8) A from hS.2.2.2.1)).mpr q))).1) (by intro c1 w1 q1; exact (fAt_ok (tRep_p (show tRep w (a0 + 8) A from hS.2.2.2.1)).2 (fun q => c1 ((has_v (show tRep w (a0 + 8) A from hS.2.2.2.1)).mpr q))).2) ?_ ?_
  · intro c1 w1 q1 w2 q2
    have hp := tRep_p (show tRep w (a0 + 8) A from hS.2.2.2.1)
    have g : ¬ fAt A x1 < 0 := fun q => c1 ((has_v (show tRep w (a0 + 8) A from hS.2.2.2.1)).mpr q)
    have hf := fAt_ok hp.2 g
    have S1 : sRep w1 (a0 + 1) A := sRep_fr q1.1 (by omega) hS
    have S2 : sRep w2 (a0 + 1) (fCut A (fAt A x1).toNatClampNeg) := sRep_tab S1 (q2.1.wide (by omega) (by omega)) q2.2 (cut_o hp.2 hf.2)
    refine tp_okv (by rw [if_pos (Int32.not_lt.mp g)]) ?_ (bnO_of q1 (q2.1.wide (by omega) (by omega)) S2)
    obtain ⟨n, _, e1, _, e3⟩ := S1.2.2.2.1
    have en : n = nPt A := by unfold nPt; rw [e1]; exact (m_cl (by omega)).symm
    have e4 := (e3 (fAt A x1).toNatClampNeg (by omega)).2
    show Value.int (hai w1 (a0 + 1 + 7 + 2) _) = _
    rw [e4]
    rfl
  · intro c1
    have g := (has_v (show tRep w (a0 + 8) A from hS.2.2.2.1)).mp c1
    exact tp_1 (by rw [if_neg (Int32.not_le.mpr g)]) rfl
theorem hRep_c {w : mH} {a c : Nat} {R : Nat → Nat → Int32} (h : hRep w a c R) : hfi w a 2 = nI c ∧ c ≤ 6 := by
  obtain ⟨_, _, _, h6, h2, _⟩ := h
  exact ⟨h2, h6⟩
theorem nI_z {c : Nat} (h : c ≤ 70000) : nI c = 0 ↔ c = 0 := ⟨fun q => by have := congrArg Int32.toNatClampNeg q; rw [m_cl h] at this; exact this, fun q => by rw [q]; rfl⟩
abbrev mX10_undo : mM := (yX10_undo, cX10_undo, 1, (some .int), [])
theorem u240 : (Cond.fieldLink "LineFollowerBench" 382 "LineFollowerBench$History" "size" "I" : Cond) ∈ mTs := mTs_in 240 (by decide +kernel) (by decide +kernel)
theorem f_X10_382 : mFld "LineFollowerBench" 382 2 2 := ⟨RX2, TX2, 3, "LineFollowerBench$History", rfl, by decide, in_X2, u240, Or.inl rfl, by decide⟩
theorem u1540 : (Cond.code ⟨"LineFollowerBench$History", "takeBack", "(LLineFollowerBench$Setup;)V"⟩ prog_4_method_3_code 4 (none : Option ClassFile.FieldType) : Cond) ∈ mTs := mTs_in 1540 (by decide +kernel) (by decide +kernel)
theorem co_X2_takeBack : mCode mX2_takeBack := ⟨u1540, u75, by decide⟩
theorem u1537 : (Cond.methodLink "LineFollowerBench" 387 ⟨"LineFollowerBench$History", "takeBack", "(LLineFollowerBench$Setup;)V"⟩ : Cond) ∈ mTs := mTs_in 1537 (by decide +kernel) (by decide +kernel)
theorem u1538 : (Cond.instanceMethod ⟨"LineFollowerBench$History", "takeBack", "(LLineFollowerBench$Setup;)V"⟩ : Cond) ∈ mTs := mTs_in 1538 (by decide +kernel) (by decide +kernel)
theorem u1539 : (Cond.selects "LineFollowerBench$History" ⟨"LineFollowerBench$History", "takeBack", "(LLineFollowerBench$Setup;)V"⟩ ⟨"LineFollowerBench$History", "takeBack", "(LLineFollowerBench$Setup;)V"⟩ : Cond) ∈ mTs := mTs_in 1539 (by decide +kernel) (by decide +kernel)
theorem l_X10_387 : mLinkV "LineFollowerBench" 387 1 mX2_takeBack := ⟨⟨by decide, by decide, by decide +kernel⟩, co_X2_takeBack, u1537, u1538, u1539⟩
set_option maxHeartbeats 4000000 in
set_option maxRecDepth 100000 in
theorem gX10_undo_0 {G : mG} {w : mH} {Φ : mF} {a0 c : Nat} {R : Nat → Nat → Int32} {A : Nat → Int32} {a0_3 a0_0 : Nat} (h1 : hk w a0 = (10, 0)) (h2 : hfr w a0 3 = some a0_3) (h3 : hk w a0_3 = (2, 0)) (h4 : hfr w a0 0 = some a0_0) (h5 : zHis w a0_3) (h6 : zSet w a0_0) (s1 : (¬ ((hfi w a0_3 2) = 0)) → a0_0 + 17 ≤ a0_3 ∨ a0_3 + 104 ≤ a0_0) (s2 : (¬ ((hfi w a0_3 2) = 0)) → hRep w a0_3 (c - 1 + 1) R) (k1 : (¬ ((hfi w a0_3 2) = 0)) → ∀ w1 : mH, (mSh w w1 ∧ (∃ wm, mFr a0_0 (a0_0 + 17) w wm ∧ mFr a0_3 (a0_3 + 1) wm w1) ∧ hRep w1 a0_3 (c - 1) R ∧ sRep w1 a0_0 (R (c - 1))) → Φ (.inl (some (.int (hfi w1 a0_3 2)))) w1) (k2 : ((hfi w a0_3 2) = 0) → ∀ n, hN w ≤ n → Φ (.inr "java/lang/IllegalStateException") (snn w n)) : mW G mX10_undo 9 1 6 0 [(0, .ref a0)] [] w Φ := by
  refine mW_aload_n (j := 0) dX10_undo_0 rfl rfl ?_
  refine mW_getR dX10_undo_1 f_X10_26 h1 rfl h2 ?_
  refine mW_get dX10_undo_4 f_X10_382 h3 rfl ?_
  refine mW_if_ne (tgt := 21) dX10_undo_7 (by decide) (fun c1 => ?_) (fun c1 => ?_)
  · refine mW_aload_n (j := 0) dX10_undo_21 rfl rfl ?_
    refine mW_getR dX10_undo_22 f_X10_26 h1 rfl h2 ?_
    refine mW_aload_n (j := 0) dX10_undo_25 rfl rfl ?_
    refine mW_getR dX10_undo_26 f_X10_12 h1 rfl h4 ?_
    refine mW_callV (As := [.ref a0_0]) (rest := []) (kc2 := 1) (ks2 := 6) dX10_undo_29 l_X10_387 rfl h3 rfl (by decide) (rX2_takeBack (w := w) (a0 := a0_3) (a1 := a0_0) h5 h6 (s1 c1) (s2 c1)) (Nat.le_of_ble_eq_true rfl) (by decide) rfl rfl mP_x (mP_k (fun w1 q1 => ?_))
    refine mW_aload_n (j := 0) dX10_undo_32 rfl rfl ?_
    refine mW_getR dX10_undo_33 f_X10_26 (s2k (mS2.of q1.1) h1) rfl (s2r (mS2.of q1.1) h2) ?_
    refine mW_get dX10_undo_36 f_X10_382 (s2k (mS2.of q1.1) h3) rfl ?_
    exact mW_iret dX10_undo_39 rfl (k1 c1 w1 q1)
  · exact mW_thrW (text := "no change can be taken back") (names := ["java/lang/RuntimeException", "java/lang/Exception"]) dX10_undo_10 dX10_undo_13 dX10_undo_14 dX10_undo_17 dX10_undo_20 th_120_124 (by decide +kernel) rfl (Nat.le_of_ble_eq_true rfl) (by decide) (by decide) (by decide) (k2 c1)
theorem tX10_undo {G : mG} {w : mH} {a0 : Nat} {c : Nat} {R : Nat → Nat → Int32} (z : zBen w a0) (hH : hRep w (a0 + 35) c R) : mC G mX10_undo 9 1 6 [.ref a0] w (tpO "java/lang/IllegalStateException" "" "" (if c = 0 then 1 else 0) (.int (nI (c - 1))) (fun u => u = w) (fun u => mF2 (a0 + 1) (a0 + 18) (a0 + 35) (a0 + 139) w u ∧ hRep u (a0 + 35) (c - 1) R ∧ sRep u (a0 + 1) (R (c - 1)))) := by
  refine mC_of (by decide +kernel) rfl (Nat.le_of_ble_eq_true rfl) rfl ?_
  refine gX10_undo_0 (c := c) (R := R) (A := fun _ => 0) (a0_3 := a0 + 35) (a0_0 := a0 + 1) z.1 z.2.2.2.1 z.2.2.2.2.2.2.2.2.2.2.2.2.2.1.1 z.2.1 z.2.2.2.2.2.2.2.2.2.2.2.2.2.1 z.2.2.2.2.2.2.2.2.2.2.2.1 (by intro c1; omega) (by intro c1; rw [show c - 1 + 1 = c by have hc := hRep_c hH; rcases Nat.eq_zero_or_pos c with q | q; exact absurd (by rw [hc.1, q]; rfl) c1; omega]; exact hH) ?_ ?_
  · intro c1 w1 q1
    have hc := hRep_c hH
    obtain ⟨s1, ⟨wm, s2, s3⟩, s4, s5⟩ := q1
    refine tp_okv (by rw [if_neg (fun q => c1 (by rw [show hfi w (a0 + 35) 2 = _ from hc.1, q]; rfl))]) ?_ ⟨(s2.f1 (by omega) (by omega)).tr (s3.f2 (by omega) (by omega)), s4, s5⟩
    rw [(hRep_c s4).1]
  · intro c1
    have hc := hRep_c hH
    exact tp_1 (by rw [if_pos ((nI_z (by omega)).mp (hc.1.symm.trans c1))]) rfl
abbrev mX10_save : mM := (yX10_save, cX10_save, 1, (some .int), [])
theorem u448 : (Cond.fieldLink "LineFollowerBench" 16 "LineFollowerBench" "saved" "LLineFollowerBench$Setup;" : Cond) ∈ mTs := mTs_in 448 (by decide +kernel) (by decide +kernel)
theorem f_X10_16 : mFld "LineFollowerBench" 16 10 1 := ⟨RX10, TX10, 12, "LineFollowerBench", rfl, by decide, in_X10, u448, Or.inl rfl, by decide⟩
theorem u691 : (Cond.methodLink "LineFollowerBench" 390 ⟨"LineFollowerBench$Setup", "takeOver", "(LLineFollowerBench$Setup;)V"⟩ : Cond) ∈ mTs := mTs_in 691 (by decide +kernel) (by decide +kernel)
theorem l_X10_390 : mLinkV "LineFollowerBench" 390 1 mX3_takeOver := ⟨⟨by decide, by decide, by decide +kernel⟩, co_X3_takeOver, u691, u692, u693⟩
theorem u449 : (Cond.fieldLink "LineFollowerBench" 19 "LineFollowerBench" "hasSaved" "Z" : Cond) ∈ mTs := mTs_in 449 (by decide +kernel) (by decide +kernel)
theorem p_X10_19 : mPut "LineFollowerBench" 19 10 2 (.boolean) false := ⟨RX10, TX10, 12, "LineFollowerBench", tyX10, rfl, by decide, in_X10, u449, Or.inl rfl, by decide, tyX10_ok, nmX10, by decide +kernel, rfl, fun h => by cases h⟩
theorem ob_10_2 (w : mH) (a : Nat) (v : Int32) : mOb (sfi w a 2 v) a 10 = (mOb w a 10).set 2 (.int v) := by simp [mOb, hfi_sfi, hfl_sfi, hfr_sfi, up2]
theorem u216 : (Cond.fieldLink "LineFollowerBench" 218 "LineFollowerBench$Setup" "track" "LLineFollowerBench$Track;" : Cond) ∈ mTs := mTs_in 216 (by decide +kernel) (by decide +kernel)
theorem f_X10_218 : mFld "LineFollowerBench" 218 3 4 := ⟨RX3, TX3, 5, "LineFollowerBench$Setup", rfl, by decide, in_X3, u216, Or.inl rfl, by decide⟩
theorem u178 : (Cond.fieldLink "LineFollowerBench" 229 "LineFollowerBench$Track" "segments" "I" : Cond) ∈ mTs := mTs_in 178 (by decide +kernel) (by decide +kernel)
theorem f_X10_229 : mFld "LineFollowerBench" 229 7 3 := ⟨RX7, TX7, 8, "LineFollowerBench$Track", rfl, by decide, in_X7, u178, Or.inl rfl, by decide⟩
set_option maxHeartbeats 4000000 in
set_option maxRecDepth 100000 in
theorem gX10_save_0 {G : mG} {w : mH} {Φ : mF} {a0 a0_1 a0_0 a0_1_4 : Nat} (h1 : hk w a0 = (10, 0)) (h2 : hfr w a0 1 = some a0_1) (h3 : hfr w a0 0 = some a0_0) (h4 : hk w a0_1 = (3, 0)) (h5 : zSet w a0_1) (h6 : zSet w a0_0) (s1 : a0_1 + 17 ≤ a0_0 ∨ a0_0 + 17 ≤ a0_1) (h7 : hfr w a0_1 4 = some a0_1_4) (h8 : hk w a0_1_4 = (7, 0)) (k1 : ∀ w1 : mH, (mFr a0_1 (a0_1 + 17) w w1 ∧ ∀ A, sRep w a0_0 A → sRep w1 a0_1 A) → ∀ w2 : mH, (w2 = sfi w1 a0 2 1) → Φ (.inl (some (.int (hfi w2 a0_1_4 3)))) w2) : mW G mX10_save 9 0 0 0 [(0, .ref a0)] [] w Φ := by
  refine mW_aload_n (j := 0) dX10_save_0 rfl rfl ?_
  refine mW_getR dX10_save_1 f_X10_16 h1 rfl h2 ?_
  refine mW_aload_n (j := 0) dX10_save_4 rfl rfl ?_
  refine mW_getR dX10_save_5 f_X10_12 h1 rfl h3 ?_
  refine mW_callV (As := [.ref a0_0]) (rest := []) (kc2 := 0) (ks2 := 0) dX10_save_8 l_X10_390 rfl h4 rfl (by decide) (rX3_takeOver (w := w) (a0 := a0_1) (a1 := a0_0) h5 h6 s1) (Nat.le_of_ble_eq_true rfl) (by decide) rfl rfl mP_x (mP_k (fun w1 q1 => ?_))
  refine mW_aload_n (j := 0) dX10_save_11 rfl rfl ?_
  refine mW_iconst (v := 1) dX10_save_12 (by decide) ?_
  refine mW_put (ty := .boolean) (w2 := sfi w1 a0 2 1) dX10_save_13 p_X10_19 (s2k (mS2.of q1.1.1) h1) (Nat.le_of_ble_eq_true rfl) (by first | rfl | decide | (repeat' split) <;> rfl) rfl (hN_sfi _ _ _ _) (hk_sfi _ _ _ _) (mE_sfi (s2k (mS2.of q1.1.1) h1) (by decide) (ob_10_2 _ _ _)) ?_
  refine mW_nm (fun w2 e1 => ?_)
  refine mW_aload_n (j := 0) dX10_save_16 rfl rfl ?_
  refine mW_getR dX10_save_17 f_X10_16 (s2k (S2_sfi e1) (s2k (mS2.of q1.1.1) h1)) rfl (s2r (S2_sfi e1) (s2r (mS2.of q1.1.1) h2)) ?_
  refine mW_getR dX10_save_20 f_X10_218 (s2k (S2_sfi e1) (s2k (mS2.of q1.1.1) h4)) rfl (s2r (S2_sfi e1) (s2r (mS2.of q1.1.1) h7)) ?_
  refine mW_get dX10_save_23 f_X10_229 (s2k (S2_sfi e1) (s2k (mS2.of q1.1.1) h8)) rfl ?_
  exact mW_iret dX10_save_26 rfl (k1 w1 q1 w2 e1)
theorem tX10_save {G : mG} {w : mH} {a0 : Nat} {A : Nat → Int32} (z : zBen w a0) (hS : sRep w (a0 + 1) A) : mC G mX10_save 9 0 0 [.ref a0] w (mP (some (.int (A 40))) (fun u => mF2 a0 (a0 + 1) (a0 + 18) (a0 + 35) w u ∧ hfi u a0 2 = 1 ∧ sRep u (a0 + 18) A)) := by
  refine mC_of (by decide +kernel) rfl (Nat.le_of_ble_eq_true rfl) rfl ?_
  refine gX10_save_0 (a0_1 := a0 + 18) (a0_0 := a0 + 1) (a0_1_4 := a0 + 28) z.1 z.2.2.1 z.2.1 z.2.2.2.2.2.2.2.2.2.2.2.2.1.1 z.2.2.2.2.2.2.2.2.2.2.2.2.1 z.2.2.2.2.2.2.2.2.2.2.2.1 (by omega) z.2.2.2.2.2.2.2.2.2.2.2.2.1.2.2.2.2.2.1 z.2.2.2.2.2.2.2.2.2.2.2.2.1.2.2.2.2.2.2.2.2.2.2.1 ?_
  · intro w1 q1 w2 e1
    have S1 := q1.2 A hS
    have f : mFr a0 (a0 + 1) w1 w2 := by rw [e1]; exact mFr_sfi mFr.rf (by omega) (by omega)
    have S2 : sRep w2 (a0 + 18) A := sRep_fr f (by omega) S1
    have e : hfi w2 (a0 + 28) 3 = A 40 := by
      obtain ⟨n, m, _, _, g1, g2, _⟩ := S2.2.2.2.2
      rw [g1]; exact g2
    rw [e]
    exact mP_of ⟨(q1.1.f2 (by omega) (by omega)).tr (f.f1 (by omega) (by omega)), by rw [e1, e_hfi_sfi, up2_at], S2⟩
abbrev mX10_restore : mM := (yX10_restore, cX10_restore, 1, (some .int), [])
theorem f_X10_19 : mFld "LineFollowerBench" 19 10 2 := ⟨RX10, TX10, 12, "LineFollowerBench", rfl, by decide, in_X10, u449, Or.inl rfl, by decide⟩
set_option maxHeartbeats 4000000 in
set_option maxRecDepth 100000 in
theorem gX10_restore_0 {G : mG} {w : mH} {Φ : mF} {a0 c : Nat} {R : Nat → Nat → Int32} {A : Nat → Int32} {a0_3 a0_0 a0_1 a0_0_4 : Nat} (h1 : hk w a0 = (10, 0)) (h2 : hfr w a0 3 = some a0_3) (h3 : hfr w a0 0 = some a0_0) (h4 : hk w a0_3 = (2, 0)) (h5 : zHis w a0_3) (h6 : zSet w a0_0) (s1 : (¬ ((hfi w a0 2) = 0)) → a0_0 + 17 ≤ a0_3 ∨ a0_3 + 104 ≤ a0_0) (s2 : (¬ ((hfi w a0 2) = 0)) → hRep w a0_3 c R) (s3 : (¬ ((hfi w a0 2) = 0)) → sRep w a0_0 A) (h7 : hfr w a0 1 = some a0_1) (h8 : hk w a0_0 = (3, 0)) (h9 : zSet w a0_1) (s4 : (¬ ((hfi w a0 2) = 0)) → ∀ w1 : mH, (mFr a0_3 (a0_3 + 104) w w1 ∧ hRep w1 a0_3 (min (c + 1) 6) (hPush R c A)) → a0_0 + 17 ≤ a0_1 ∨ a0_1 + 17 ≤ a0_0) (h10 : hfr w a0_0 4 = some a0_0_4) (h11 : hk w a0_0_4 = (7, 0)) (k1 : (¬ ((hfi w a0 2) = 0)) → ∀ w1 : mH, (mFr a0_3 (a0_3 + 104) w w1 ∧ hRep w1 a0_3 (min (c + 1) 6) (hPush R c A)) → ∀ w2 : mH, (mFr a0_0 (a0_0 + 17) w1 w2 ∧ ∀ A, sRep w1 a0_1 A → sRep w2 a0_0 A) → Φ (.inl (some (.int (hfi w2 a0_0_4 3)))) w2) (k2 : ((hfi w a0 2) = 0) → ∀ n, hN w ≤ n → Φ (.inr "java/lang/IllegalStateException") (snn w n)) : mW G mX10_restore 9 1 6 0 [(0, .ref a0)] [] w Φ := by
  refine mW_aload_n (j := 0) dX10_restore_0 rfl rfl ?_
  refine mW_get dX10_restore_1 f_X10_19 h1 rfl ?_
  refine mW_if_ne (tgt := 18) dX10_restore_4 (by decide) (fun c1 => ?_) (fun c1 => ?_)
  · refine mW_aload_n (j := 0) dX10_restore_18 rfl rfl ?_
    refine mW_getR dX10_restore_19 f_X10_26 h1 rfl h2 ?_
    refine mW_aload_n (j := 0) dX10_restore_22 rfl rfl ?_
    refine mW_getR dX10_restore_23 f_X10_12 h1 rfl h3 ?_
    refine mW_callV (As := [.ref a0_0]) (rest := []) (kc2 := 1) (ks2 := 6) dX10_restore_26 l_X10_101 rfl h4 rfl (by decide) (rX2_remember (w := w) (a0 := a0_3) (a1 := a0_0) h5 h6 (s1 c1) (s2 c1) (s3 c1)) (Nat.le_of_ble_eq_true rfl) (by decide) rfl rfl mP_x (mP_k (fun w1 q1 => ?_))
    refine mW_aload_n (j := 0) dX10_restore_29 rfl rfl ?_
    refine mW_getR dX10_restore_30 f_X10_12 (s2k (mS2.of q1.1.1) h1) rfl (s2r (mS2.of q1.1.1) h3) ?_
    refine mW_aload_n (j := 0) dX10_restore_33 rfl rfl ?_
    refine mW_getR dX10_restore_34 f_X10_16 (s2k (mS2.of q1.1.1) h1) rfl (s2r (mS2.of q1.1.1) h7) ?_
    refine mW_callV (As := [.ref a0_1]) (rest := []) (kc2 := 1) (ks2 := 6) dX10_restore_37 l_X10_390 rfl (s2k (mS2.of q1.1.1) h8) rfl (by decide) (rX3_takeOver (w := w1) (a0 := a0_0) (a1 := a0_1) (zSet_s2 (mS2.of q1.1.1) h6) (zSet_s2 (mS2.of q1.1.1) h9) (s4 c1 w1 q1)) (Nat.le_of_ble_eq_true rfl) (by decide) rfl rfl mP_x (mP_k (fun w2 q2 => ?_))
    refine mW_aload_n (j := 0) dX10_restore_40 rfl rfl ?_
    refine mW_getR dX10_restore_41 f_X10_12 (s2k (mS2.of q2.1.1) (s2k (mS2.of q1.1.1) h1)) rfl (s2r (mS2.of q2.1.1) (s2r (mS2.of q1.1.1) h3)) ?_
    refine mW_getR dX10_restore_44 f_X10_218 (s2k (mS2.of q2.1.1) (s2k (mS2.of q1.1.1) h8)) rfl (s2r (mS2.of q2.1.1) (s2r (mS2.of q1.1.1) h10)) ?_
    refine mW_get dX10_restore_47 f_X10_229 (s2k (mS2.of q2.1.1) (s2k (mS2.of q1.1.1) h11)) rfl ?_
    exact mW_iret dX10_restore_50 rfl (k1 c1 w1 q1 w2 q2)
  · exact mW_thrW (text := "nothing was saved") (names := ["java/lang/RuntimeException", "java/lang/Exception"]) dX10_restore_7 dX10_restore_10 dX10_restore_11 dX10_restore_14 dX10_restore_17 th_120_124 (by decide +kernel) rfl (Nat.le_of_ble_eq_true rfl) (by decide) (by decide) (by decide) (k2 c1)
theorem tX10_restore {G : mG} {w : mH} {a0 : Nat} {c : Nat} {R : Nat → Nat → Int32} {A : Nat → Int32} {B : Nat → Int32} (z : zBen w a0) (hH : hRep w (a0 + 35) c R) (hS : sRep w (a0 + 1) A) (hV : ¬ hfi w a0 2 = 0 → sRep w (a0 + 18) B) : mC G mX10_restore 9 1 6 [.ref a0] w (tpO "java/lang/IllegalStateException" "" "" (if hfi w a0 2 = 0 then 1 else 0) (.int (B 40)) (fun u => u = w) (fun u => bnO w u a0 c R A (B))) := by
  refine mC_of (by decide +kernel) rfl (Nat.le_of_ble_eq_true rfl) rfl ?_
  refine gX10_restore_0 (c := c) (R := R) (A := A) (a0_3 := a0 + 35) (a0_0 := a0 + 1) (a0_1 := a0 + 18) (a0_0_4 := a0 + 11) z.1 z.2.2.2.1 z.2.1 z.2.2.2.2.2.2.2.2.2.2.2.2.2.1.1 z.2.2.2.2.2.2.2.2.2.2.2.2.2.1 z.2.2.2.2.2.2.2.2.2.2.2.1 (by intro c1; omega) (by intro c1; exact hH) (by intro c1; exact hS) z.2.2.1 z.2.2.2.2.2.2.2.2.2.2.2.1.1 z.2.2.2.2.2.2.2.2.2.2.2.2.1 (by intro c1 w1 q1; omega) z.2.2.2.2.2.2.2.2.2.2.2.1.2.2.2.2.2.1 z.2.2.2.2.2.2.2.2.2.2.2.1.2.2.2.2.2.2.2.2.2.2.1 ?_ ?_
  · intro c1 w1 q1 w2 q2
    have B1 : sRep w1 (a0 + 18) B := sRep_fr q1.1 (by omega) (hV c1)
    have S2 := q2.2 B B1
    refine tp_okv (by rw [if_neg c1]) ?_ (bnO_of q1 (q2.1.wide (by omega) (by omega)) S2)
    obtain ⟨n, m, _, _, g1, g2, _⟩ := S2.2.2.2.2
    rw [g1]; exact congrArg Value.int g2
  · intro c1
    exact tp_1 (by rw [if_pos c1]) rfl
theorem ap_c {n m : Nat} (h : ¬ (if n + m ≤ 50 then (1 : Int32) else 0) = 0) : n + m ≤ 50 := by
  by_cases q : n + m ≤ 50
  · exact q
  · rw [if_neg q] at h; exact absurd rfl h
theorem ap_n {n m : Nat} (h : (if n + m ≤ 50 then (1 : Int32) else 0) = 0) : ¬ n + m ≤ 50 := fun q => by rw [if_pos q] at h; exact absurd h (by decide)
abbrev mX10_append : mM := (yX10_append, cX10_append, 2, (some .int), [])
theorem u946 : (Cond.code ⟨"LineFollowerBench$TrackReader", "isAllowed", "(I)Z"⟩ prog_10_method_2_code 3 (some .boolean) : Cond) ∈ mTs := mTs_in 946 (by decide +kernel) (by decide +kernel)
theorem co_X8_isAllowed : mCode mX8_isAllowed := ⟨u946, u76, by decide⟩
theorem u944 : (Cond.methodLink "LineFollowerBench" 196 ⟨"LineFollowerBench$TrackReader", "isAllowed", "(I)Z"⟩ : Cond) ∈ mTs := mTs_in 944 (by decide +kernel) (by decide +kernel)
theorem u945 : (Cond.static ⟨"LineFollowerBench$TrackReader", "isAllowed", "(I)Z"⟩ : Cond) ∈ mTs := mTs_in 945 (by decide +kernel) (by decide +kernel)
theorem l_X10_196 : mLinkS "LineFollowerBench" 196 1 mX8_isAllowed := ⟨⟨by decide, by decide, by decide +kernel⟩, co_X8_isAllowed, u944, u945⟩
theorem u952 : (Cond.code ⟨"LineFollowerBench$TrackReader", "hasRoomFor", "(I)Z"⟩ prog_10_method_3_code 4 (some .boolean) : Cond) ∈ mTs := mTs_in 952 (by decide +kernel) (by decide +kernel)
theorem co_X8_hasRoomFor : mCode mX8_hasRoomFor := ⟨u952, u76, by decide⟩
theorem u949 : (Cond.methodLink "LineFollowerBench" 201 ⟨"LineFollowerBench$TrackReader", "hasRoomFor", "(I)Z"⟩ : Cond) ∈ mTs := mTs_in 949 (by decide +kernel) (by decide +kernel)
theorem u950 : (Cond.instanceMethod ⟨"LineFollowerBench$TrackReader", "hasRoomFor", "(I)Z"⟩ : Cond) ∈ mTs := mTs_in 950 (by decide +kernel) (by decide +kernel)
theorem u951 : (Cond.selects "LineFollowerBench$TrackReader" ⟨"LineFollowerBench$TrackReader", "hasRoomFor", "(I)Z"⟩ ⟨"LineFollowerBench$TrackReader", "hasRoomFor", "(I)Z"⟩ : Cond) ∈ mTs := mTs_in 951 (by decide +kernel) (by decide +kernel)
theorem l_X10_201 : mLinkV "LineFollowerBench" 201 1 mX8_hasRoomFor := ⟨⟨by decide, by decide, by decide +kernel⟩, co_X8_hasRoomFor, u949, u950, u951⟩
theorem u957 : (Cond.code ⟨"LineFollowerBench$TrackReader", "takeIn", "(I)V"⟩ prog_10_method_4_code 4 (none : Option ClassFile.FieldType) : Cond) ∈ mTs := mTs_in 957 (by decide +kernel) (by decide +kernel)
theorem co_X8_takeIn : mCode mX8_takeIn := ⟨u957, u76, by decide⟩
theorem u954 : (Cond.methodLink "LineFollowerBench" 206 ⟨"LineFollowerBench$TrackReader", "takeIn", "(I)V"⟩ : Cond) ∈ mTs := mTs_in 954 (by decide +kernel) (by decide +kernel)
theorem u955 : (Cond.instanceMethod ⟨"LineFollowerBench$TrackReader", "takeIn", "(I)V"⟩ : Cond) ∈ mTs := mTs_in 955 (by decide +kernel) (by decide +kernel)
theorem u956 : (Cond.selects "LineFollowerBench$TrackReader" ⟨"LineFollowerBench$TrackReader", "takeIn", "(I)V"⟩ ⟨"LineFollowerBench$TrackReader", "takeIn", "(I)V"⟩ : Cond) ∈ mTs := mTs_in 956 (by decide +kernel) (by decide +kernel)
theorem l_X10_206 : mLinkV "LineFollowerBench" 206 1 mX8_takeIn := ⟨⟨by decide, by decide, by decide +kernel⟩, co_X8_takeIn, u954, u955, u956⟩
theorem u258 : (Cond.fieldLink "LineFollowerBench" 209 "LineFollowerBench$TrackReader" "length" "I" : Cond) ∈ mTs := mTs_in 258 (by decide +kernel) (by decide +kernel)
theorem f_X10_209 : mFld "LineFollowerBench" 209 8 1 := ⟨RX8, TX8, 6, "LineFollowerBench$TrackReader", rfl, by decide, in_X8, u258, Or.inl rfl, by decide⟩
set_option maxHeartbeats 4000000 in
set_option maxRecDepth 100000 in
theorem gX10_append_0 {G : mG} {w : mH} {Φ : mF} {a0 : Nat} {x1 : Int32} {n : Nat} {lt : Nat → Nat} {a0_4 : Nat} (h1 : hk w a0 = (10, 0)) (h2 : hfr w a0 4 = some a0_4) (h3 : hk w a0_4 = (8, 0)) (h4 : zRea w a0_4) (s1 : (¬ ((alw x1 4) = 0)) → hfi w a0_4 1 = nI n) (s2 : (¬ ((alw x1 4) = 0)) → n ≤ 50) (s3 : (¬ ((alw x1 4) = 0)) → (¬ ((if n + cnt x1 4 ≤ 50 then (1 : Int32) else 0) = 0)) → rdL w a0_4 lt n) (s4 : (¬ ((alw x1 4) = 0)) → (¬ ((if n + cnt x1 4 ≤ 50 then (1 : Int32) else 0) = 0)) → n + cnt x1 4 ≤ 50) (s5 : (¬ ((alw x1 4) = 0)) → (¬ ((if n + cnt x1 4 ≤ 50 then (1 : Int32) else 0) = 0)) → ¬ alw x1 4 = 0) (k1 : (¬ ((alw x1 4) = 0)) → (¬ ((if n + cnt x1 4 ≤ 50 then (1 : Int32) else 0) = 0)) → ∀ w1 : mH, (mFr a0_4 (a0_4 + 2) w w1 ∧ hfi w1 a0_4 2 = hfi w a0_4 2 ∧ rdL w1 a0_4 (tk x1 4 lt n) (n + cnt x1 4)) → Φ (.inl (some (.int (hfi w1 a0_4 1)))) w1) (k2 : (¬ ((alw x1 4) = 0)) → ((if n + cnt x1 4 ≤ 50 then (1 : Int32) else 0) = 0) → ∀ n, hN w ≤ n → Φ (.inr "java/lang/IllegalStateException") (snn w n)) (k3 : ((alw x1 4) = 0) → ∀ n, hN w ≤ n → Φ (.inr "java/lang/IllegalArgumentException") (snn w n)) : mW G mX10_append 9 1 6 0 [(0, .ref a0), (1, .int x1)] [] w Φ := by
  refine mW_iload_n (j := 1) dX10_append_0 rfl rfl ?_
  refine mW_callSe (As := [.int x1]) (rest := []) (kc2 := 1) (ks2 := 6) dX10_append_1 l_X10_196 rfl (rX8_isAllowed (w := w) (x0 := x1)) (Nat.le_of_ble_eq_true rfl) (by decide) rfl rfl ?_
  refine mW_if_ne (tgt := 17) dX10_append_4 (by decide) (fun c1 => ?_) (fun c1 => ?_)
  · refine mW_aload_n (j := 0) dX10_append_17 rfl rfl ?_
    refine mW_getR dX10_append_18 f_X10_33 h1 rfl h2 ?_
    refine mW_iload_n (j := 1) dX10_append_21 rfl rfl ?_
    refine mW_callVe (As := [.int x1]) (rest := []) (kc2 := 1) (ks2 := 6) dX10_append_22 l_X10_201 rfl h3 rfl (by decide) (rX8_hasRoomFor (w := w) (a0 := a0_4) (x1 := x1) h4 (s1 c1) (s2 c1)) (Nat.le_of_ble_eq_true rfl) (by decide) rfl rfl ?_
    refine mW_if_ne (tgt := 38) dX10_append_25 (by decide) (fun c2 => ?_) (fun c2 => ?_)
    · refine mW_aload_n (j := 0) dX10_append_38 rfl rfl ?_
      refine mW_getR dX10_append_39 f_X10_33 h1 rfl h2 ?_
      refine mW_iload_n (j := 1) dX10_append_42 rfl rfl ?_
      refine mW_callV (As := [.int x1]) (rest := []) (kc2 := 1) (ks2 := 6) dX10_append_43 l_X10_206 rfl h3 rfl (by decide) (rX8_takeIn (w := w) (a0 := a0_4) (x1 := x1) h4 (s3 c1 c2) (s4 c1 c2) (s5 c1 c2)) (Nat.le_of_ble_eq_true rfl) (by decide) rfl rfl mP_x (mP_k (fun w1 q1 => ?_))
      refine mW_aload_n (j := 0) dX10_append_46 rfl rfl ?_
      refine mW_getR dX10_append_47 f_X10_33 (s2k (mS2.of q1.1.1) h1) rfl (s2r (mS2.of q1.1.1) h2) ?_
      refine mW_get dX10_append_50 f_X10_209 (s2k (mS2.of q1.1.1) h3) rfl ?_
      exact mW_iret dX10_append_53 rfl (k1 c1 c2 w1 q1)
    · exact mW_thr (text := "the buffer is full") (names := ["java/lang/RuntimeException", "java/lang/Exception"]) dX10_append_28 dX10_append_31 dX10_append_32 dX10_append_34 dX10_append_37 th_120_124 (by decide +kernel) rfl (Nat.le_of_ble_eq_true rfl) (by decide) (by decide) (by decide) (k2 c1 c2)
  · exact mW_thr (text := "a character is not allowed") (names := ["java/lang/RuntimeException", "java/lang/Exception"]) dX10_append_7 dX10_append_10 dX10_append_11 dX10_append_13 dX10_append_16 th_96_100 (by decide +kernel) rfl (Nat.le_of_ble_eq_true rfl) (by decide) (by decide) (by decide) (k3 c1)
theorem tX10_append {G : mG} {w : mH} {a0 : Nat} {x1 : Int32} {n : Nat} {lt : Nat → Nat} (z : zBen w a0) (hL : rdL w (a0 + 139) lt n) : mC G mX10_append 9 1 6 [.ref a0, .int x1] w (tpO "java/lang/IllegalArgumentException" "java/lang/IllegalStateException" "" (apT x1 n) (.int (nI (n + cnt x1 4))) (fun u => u = w) (fun u => mFr (a0 + 139) (a0 + 141) w u ∧ hfi u (a0 + 139) 2 = hfi w (a0 + 139) 2 ∧ rdL u (a0 + 139) (tk x1 4 lt n) (n + cnt x1 4))) := by
  refine mC_of (by decide +kernel) rfl (Nat.le_of_ble_eq_true rfl) rfl ?_
  refine gX10_append_0 (n := n) (lt := lt) (a0_4 := a0 + 139) z.1 z.2.2.2.2.1 z.2.2.2.2.2.2.2.2.2.2.2.2.2.2.1.1 z.2.2.2.2.2.2.2.2.2.2.2.2.2.2.1 (by intro c1; exact hL.1) (by intro c1; exact hL.2.1) (by intro c1 c2; exact hL) (by intro c1 c2; exact ap_c c2) (by intro c1 c2; exact c1) ?_ ?_ ?_
  · intro c1 c2 w1 q1
    have h2 := ap_c c2
    refine tp_okv (by unfold apT; rw [if_neg c1, if_pos h2]) ?_ q1
    rw [q1.2.2.1]
  · intro c1 c2
    exact tp_2 (by unfold apT; rw [if_neg c1, if_neg (ap_n c2)]) rfl
  · intro c1
    exact tp_1 (by unfold apT; rw [if_pos c1]) rfl
theorem ldL_0 {α β : Type} {r : α ⊕ β} (h : isL r = 0) : ∃ q, r = .inr q := by
  cases r with
  | inl x => exact absurd h (show ¬ (1 : Int32) = 0 by decide)
  | inr q => exact ⟨q, rfl⟩
theorem ldL_1 {α β : Type} {r : α ⊕ β} (h : ¬ isL r = 0) : ∃ x, r = .inl x := by
  cases r with
  | inl x => exact ⟨x, rfl⟩
  | inr q => exact absurd rfl h
theorem kRep_c {w : mH} {a : Nat} {A : Nat → Int32} (h : kRep w a A) : hfi w a 3 = nI (nSg A) ∧ hfi w a 7 = nI (nPs A) := by
  obtain ⟨n, m, h8, h4, z1, z2, z3, z4, _⟩ := h
  have e1 : nSg A = n := by unfold nSg; rw [z1]; exact m_cl (by omega)
  have e2 : nPs A = m := by unfold nPs; rw [z3]; exact m_cl (by omega)
  rw [e1, e2]; exact ⟨z2, z4⟩
theorem nI_ad (a b : Nat) : nI a + nI b = nI (a + b) := by unfold nI; exact Int32.ofNat_add a b |>.symm
abbrev mX10_load : mM := (yX10_load, cX10_load, 2, (some .int), [])
theorem u968 : (Cond.code ⟨"LineFollowerBench$TrackReader", "readText", "()Z"⟩ prog_10_method_5_code 2 (some .boolean) : Cond) ∈ mTs := mTs_in 968 (by decide +kernel) (by decide +kernel)
theorem co_X8_readText : mCode mX8_readText := ⟨u968, u76, by decide⟩
theorem u965 : (Cond.methodLink "LineFollowerBench" 212 ⟨"LineFollowerBench$TrackReader", "readText", "()Z"⟩ : Cond) ∈ mTs := mTs_in 965 (by decide +kernel) (by decide +kernel)
theorem u966 : (Cond.instanceMethod ⟨"LineFollowerBench$TrackReader", "readText", "()Z"⟩ : Cond) ∈ mTs := mTs_in 966 (by decide +kernel) (by decide +kernel)
theorem u967 : (Cond.selects "LineFollowerBench$TrackReader" ⟨"LineFollowerBench$TrackReader", "readText", "()Z"⟩ ⟨"LineFollowerBench$TrackReader", "readText", "()Z"⟩ : Cond) ∈ mTs := mTs_in 967 (by decide +kernel) (by decide +kernel)
theorem l_X10_212 : mLinkV "LineFollowerBench" 212 0 mX8_readText := ⟨⟨by decide, by decide, by decide +kernel⟩, co_X8_readText, u965, u966, u967⟩
theorem p_X10_209 : mPut "LineFollowerBench" 209 8 1 (.int) false := ⟨RX8, TX8, 6, "LineFollowerBench$TrackReader", tyX8, rfl, by decide, in_X8, u258, Or.inl rfl, by decide, tyX8_ok, nmX8, by decide +kernel, rfl, fun h => by cases h⟩
theorem u262 : (Cond.fieldLink "LineFollowerBench" 222 "LineFollowerBench$TrackReader" "track" "LLineFollowerBench$Track;" : Cond) ∈ mTs := mTs_in 262 (by decide +kernel) (by decide +kernel)
theorem f_X10_222 : mFld "LineFollowerBench" 222 8 3 := ⟨RX8, TX8, 6, "LineFollowerBench$TrackReader", rfl, by decide, in_X8, u262, Or.inl rfl, by decide⟩
theorem u1024 : (Cond.methodLink "LineFollowerBench" 223 ⟨"LineFollowerBench$Track", "takeOver", "(LLineFollowerBench$Track;)V"⟩ : Cond) ∈ mTs := mTs_in 1024 (by decide +kernel) (by decide +kernel)
theorem l_X10_223 : mLinkV "LineFollowerBench" 223 1 mX7_takeOver := ⟨⟨by decide, by decide, by decide +kernel⟩, co_X7_takeOver, u1024, u703, u704⟩
theorem u183 : (Cond.fieldLink "LineFollowerBench" 232 "LineFollowerBench$Track" "disturbances" "I" : Cond) ∈ mTs := mTs_in 183 (by decide +kernel) (by decide +kernel)
theorem f_X10_232 : mFld "LineFollowerBench" 232 7 7 := ⟨RX7, TX7, 8, "LineFollowerBench$Track", rfl, by decide, in_X7, u183, Or.inl rfl, by decide⟩
set_option maxHeartbeats 4000000 in
set_option maxRecDepth 100000 in
theorem gX10_load_0 {G : mG} {w : mH} {Φ : mF} {a0 c : Nat} {R : Nat → Nat → Int32} {A : Nat → Int32} {n : Nat} {lt : Nat → Nat} {B : Nat → Int32} {a0_4 a0_3 a0_0 a0_0_4 a0_4_3 : Nat} (h1 : hk w a0 = (10, 0)) (h2 : hfr w a0 4 = some a0_4) (h3 : hk w a0_4 = (8, 0)) (h4 : zRea w a0_4) (s1 : hfi w a0_4 1 = nI n) (s2 : n ≤ 50) (s3 : ∀ i, i < n → hai w (a0_4 + 1) i = nI (lt i) ∧ 33 ≤ lt i ∧ lt i ≤ 126) (s4 : B 40 = 0) (s5 : B 65 = 0) (h5 : hfr w a0 3 = some a0_3) (h6 : hfr w a0 0 = some a0_0) (h7 : hk w a0_3 = (2, 0)) (s6 : ∀ w1 : mH, (mFr a0_4 (a0_4 + 9) w w1 ∧ hai w1 (a0_4 + 1) = hai w (a0_4 + 1) ∧ hfi w1 a0_4 1 = nI n ∧ (∀ x, pTxt lt n 50 0 B = .inl x → hfi w1 a0_4 2 = -1 ∧ kRep w1 (a0_4 + 2) x) ∧ ∀ q, pTxt lt n 50 0 B = .inr q → hfi w1 a0_4 2 = nI q) → ∀ w2 : mH, (w2 = sfi w1 a0_4 1 0) → (¬ ((isL (pTxt lt n 50 0 B)) = 0)) → zHis w2 a0_3) (h8 : zSet w a0_0) (s7 : ∀ w1 : mH, (mFr a0_4 (a0_4 + 9) w w1 ∧ hai w1 (a0_4 + 1) = hai w (a0_4 + 1) ∧ hfi w1 a0_4 1 = nI n ∧ (∀ x, pTxt lt n 50 0 B = .inl x → hfi w1 a0_4 2 = -1 ∧ kRep w1 (a0_4 + 2) x) ∧ ∀ q, pTxt lt n 50 0 B = .inr q → hfi w1 a0_4 2 = nI q) → ∀ w2 : mH, (w2 = sfi w1 a0_4 1 0) → (¬ ((isL (pTxt lt n 50 0 B)) = 0)) → a0_0 + 17 ≤ a0_3 ∨ a0_3 + 104 ≤ a0_0) (s8 : ∀ w1 : mH, (mFr a0_4 (a0_4 + 9) w w1 ∧ hai w1 (a0_4 + 1) = hai w (a0_4 + 1) ∧ hfi w1 a0_4 1 = nI n ∧ (∀ x, pTxt lt n 50 0 B = .inl x → hfi w1 a0_4 2 = -1 ∧ kRep w1 (a0_4 + 2) x) ∧ ∀ q, pTxt lt n 50 0 B = .inr q → hfi w1 a0_4 2 = nI q) → ∀ w2 : mH, (w2 = sfi w1 a0_4 1 0) → (¬ ((isL (pTxt lt n 50 0 B)) = 0)) → hRep w2 a0_3 c R) (s9 : ∀ w1 : mH, (mFr a0_4 (a0_4 + 9) w w1 ∧ hai w1 (a0_4 + 1) = hai w (a0_4 + 1) ∧ hfi w1 a0_4 1 = nI n ∧ (∀ x, pTxt lt n 50 0 B = .inl x → hfi w1 a0_4 2 = -1 ∧ kRep w1 (a0_4 + 2) x) ∧ ∀ q, pTxt lt n 50 0 B = .inr q → hfi w1 a0_4 2 = nI q) → ∀ w2 : mH, (w2 = sfi w1 a0_4 1 0) → (¬ ((isL (pTxt lt n 50 0 B)) = 0)) → sRep w2 a0_0 A) (h9 : hk w a0_0 = (3, 0)) (h10 : hfr w a0_0 4 = some a0_0_4) (h11 : hfr w a0_4 3 = some a0_4_3) (h12 : hk w a0_0_4 = (7, 0)) (h13 : zTrk w a0_0_4) (h14 : zTrk w a0_4_3) (s10 : ∀ w1 : mH, (mFr a0_4 (a0_4 + 9) w w1 ∧ hai w1 (a0_4 + 1) = hai w (a0_4 + 1) ∧ hfi w1 a0_4 1 = nI n ∧ (∀ x, pTxt lt n 50 0 B = .inl x → hfi w1 a0_4 2 = -1 ∧ kRep w1 (a0_4 + 2) x) ∧ ∀ q, pTxt lt n 50 0 B = .inr q → hfi w1 a0_4 2 = nI q) → ∀ w2 : mH, (w2 = sfi w1 a0_4 1 0) → (¬ ((isL (pTxt lt n 50 0 B)) = 0)) → ∀ w3 : mH, (mFr a0_3 (a0_3 + 104) w2 w3 ∧ hRep w3 a0_3 (min (c + 1) 6) (hPush R c A)) → a0_0_4 + 7 ≤ a0_4_3 ∨ a0_4_3 + 7 ≤ a0_0_4) (k1 : ∀ w1 : mH, (mFr a0_4 (a0_4 + 9) w w1 ∧ hai w1 (a0_4 + 1) = hai w (a0_4 + 1) ∧ hfi w1 a0_4 1 = nI n ∧ (∀ x, pTxt lt n 50 0 B = .inl x → hfi w1 a0_4 2 = -1 ∧ kRep w1 (a0_4 + 2) x) ∧ ∀ q, pTxt lt n 50 0 B = .inr q → hfi w1 a0_4 2 = nI q) → ∀ w2 : mH, (w2 = sfi w1 a0_4 1 0) → (¬ ((isL (pTxt lt n 50 0 B)) = 0)) → ∀ w3 : mH, (mFr a0_3 (a0_3 + 104) w2 w3 ∧ hRep w3 a0_3 (min (c + 1) 6) (hPush R c A)) → ∀ w4 : mH, (mFr a0_0_4 (a0_0_4 + 7) w3 w4 ∧ ∀ A, kRep w3 a0_4_3 A → kRep w4 a0_0_4 A) → Φ (.inl (some (.int ((hfi w4 a0_0_4 3) + (hfi w4 a0_0_4 7))))) w4) (k2 : ∀ w1 : mH, (mFr a0_4 (a0_4 + 9) w w1 ∧ hai w1 (a0_4 + 1) = hai w (a0_4 + 1) ∧ hfi w1 a0_4 1 = nI n ∧ (∀ x, pTxt lt n 50 0 B = .inl x → hfi w1 a0_4 2 = -1 ∧ kRep w1 (a0_4 + 2) x) ∧ ∀ q, pTxt lt n 50 0 B = .inr q → hfi w1 a0_4 2 = nI q) → ∀ w2 : mH, (w2 = sfi w1 a0_4 1 0) → ((isL (pTxt lt n 50 0 B)) = 0) → ∀ n, hN w2 ≤ n → Φ (.inr "java/lang/IllegalArgumentException") (snn w2 n)) : mW G mX10_load 9 1 6 0 [(0, .ref a0)] [] w Φ := by
  refine mW_aload_n (j := 0) dX10_load_0 rfl rfl ?_
  refine mW_getR dX10_load_1 f_X10_33 h1 rfl h2 ?_
  refine mW_callV (As := []) (rest := []) (kc2 := 1) (ks2 := 6) dX10_load_4 l_X10_212 rfl h3 rfl (by decide) (rX8_readText (w := w) (a0 := a0_4) h4 s1 s2 s3 s4 s5) (Nat.le_of_ble_eq_true rfl) (by decide) rfl rfl mP_x (mP_k (fun w1 q1 => ?_))
  refine mW_istore_n (lv2 := [(1, .int (isL (pTxt lt n 50 0 B))), (0, .ref a0)]) dX10_load_7 rfl (by decide) rfl ?_
  refine mW_aload_n (j := 1) dX10_load_8 rfl rfl ?_
  refine mW_getR dX10_load_9 f_X10_33 (s2k (mS2.of q1.1.1) h1) rfl (s2r (mS2.of q1.1.1) h2) ?_
  refine mW_iconst (v := 0) dX10_load_12 (by decide) ?_
  refine mW_put (ty := .int) (w2 := sfi w1 a0_4 1 0) dX10_load_13 p_X10_209 (s2k (mS2.of q1.1.1) h3) (Nat.le_of_ble_eq_true rfl) (by first | rfl | decide | (repeat' split) <;> rfl) rfl (hN_sfi _ _ _ _) (hk_sfi _ _ _ _) (mE_sfi (s2k (mS2.of q1.1.1) h3) (by decide) (ob_8_1 _ _ _)) ?_
  refine mW_nm (fun w2 e1 => ?_)
  refine mW_iload_n (j := 0) dX10_load_16 rfl rfl ?_
  refine mW_if_ne (tgt := 30) dX10_load_17 (by decide) (fun c1 => ?_) (fun c1 => ?_)
  · refine mW_aload_n (j := 1) dX10_load_30 rfl rfl ?_
    refine mW_getR dX10_load_31 f_X10_26 (s2k (S2_sfi e1) (s2k (mS2.of q1.1.1) h1)) rfl (s2r (S2_sfi e1) (s2r (mS2.of q1.1.1) h5)) ?_
    refine mW_aload_n (j := 1) dX10_load_34 rfl rfl ?_
    refine mW_getR dX10_load_35 f_X10_12 (s2k (S2_sfi e1) (s2k (mS2.of q1.1.1) h1)) rfl (s2r (S2_sfi e1) (s2r (mS2.of q1.1.1) h6)) ?_
    refine mW_callV (As := [.ref a0_0]) (rest := []) (kc2 := 1) (ks2 := 6) dX10_load_38 l_X10_101 rfl (s2k (S2_sfi e1) (s2k (mS2.of q1.1.1) h7)) rfl (by decide) (rX2_remember (w := w2) (a0 := a0_3) (a1 := a0_0) (s6 w1 q1 w2 e1 c1) (zSet_s2 (S2_sfi e1) (zSet_s2 (mS2.of q1.1.1) h8)) (s7 w1 q1 w2 e1 c1) (s8 w1 q1 w2 e1 c1) (s9 w1 q1 w2 e1 c1)) (Nat.le_of_ble_eq_true rfl) (by decide) rfl rfl mP_x (mP_k (fun w3 q2 => ?_))
    refine mW_aload_n (j := 1) dX10_load_41 rfl rfl ?_
    refine mW_getR dX10_load_42 f_X10_12 (s2k (mS2.of q2.1.1) (s2k (S2_sfi e1) (s2k (mS2.of q1.1.1) h1))) rfl (s2r (mS2.of q2.1.1) (s2r (S2_sfi e1) (s2r (mS2.of q1.1.1) h6))) ?_
    refine mW_getR dX10_load_45 f_X10_218 (s2k (mS2.of q2.1.1) (s2k (S2_sfi e1) (s2k (mS2.of q1.1.1) h9))) rfl (s2r (mS2.of q2.1.1) (s2r (S2_sfi e1) (s2r (mS2.of q1.1.1) h10))) ?_
    refine mW_aload_n (j := 1) dX10_load_48 rfl rfl ?_
    refine mW_getR dX10_load_49 f_X10_33 (s2k (mS2.of q2.1.1) (s2k (S2_sfi e1) (s2k (mS2.of q1.1.1) h1))) rfl (s2r (mS2.of q2.1.1) (s2r (S2_sfi e1) (s2r (mS2.of q1.1.1) h2))) ?_
    refine mW_getR dX10_load_52 f_X10_222 (s2k (mS2.of q2.1.1) (s2k (S2_sfi e1) (s2k (mS2.of q1.1.1) h3))) rfl (s2r (mS2.of q2.1.1) (s2r (S2_sfi e1) (s2r (mS2.of q1.1.1) h11))) ?_
    refine mW_callV (As := [.ref a0_4_3]) (rest := []) (kc2 := 1) (ks2 := 6) dX10_load_55 l_X10_223 rfl (s2k (mS2.of q2.1.1) (s2k (S2_sfi e1) (s2k (mS2.of q1.1.1) h12))) rfl (by decide) (rX7_takeOver (w := w3) (a0 := a0_0_4) (a1 := a0_4_3) (zTrk_s2 (mS2.of q2.1.1) (zTrk_s2 (S2_sfi e1) (zTrk_s2 (mS2.of q1.1.1) h13))) (zTrk_s2 (mS2.of q2.1.1) (zTrk_s2 (S2_sfi e1) (zTrk_s2 (mS2.of q1.1.1) h14))) (s10 w1 q1 w2 e1 c1 w3 q2)) (Nat.le_of_ble_eq_true rfl) (by decide) rfl rfl mP_x (mP_k (fun w4 q3 => ?_))
    refine mW_aload_n (j := 1) dX10_load_58 rfl rfl ?_
    refine mW_getR dX10_load_59 f_X10_12 (s2k (mS2.of q3.1.1) (s2k (mS2.of q2.1.1) (s2k (S2_sfi e1) (s2k (mS2.of q1.1.1) h1)))) rfl (s2r (mS2.of q3.1.1) (s2r (mS2.of q2.1.1) (s2r (S2_sfi e1) (s2r (mS2.of q1.1.1) h6)))) ?_
    refine mW_getR dX10_load_62 f_X10_218 (s2k (mS2.of q3.1.1) (s2k (mS2.of q2.1.1) (s2k (S2_sfi e1) (s2k (mS2.of q1.1.1) h9)))) rfl (s2r (mS2.of q3.1.1) (s2r (mS2.of q2.1.1) (s2r (S2_sfi e1) (s2r (mS2.of q1.1.1) h10)))) ?_
    refine mW_get dX10_load_65 f_X10_229 (s2k (mS2.of q3.1.1) (s2k (mS2.of q2.1.1) (s2k (S2_sfi e1) (s2k (mS2.of q1.1.1) h12)))) rfl ?_
    refine mW_aload_n (j := 1) dX10_load_68 rfl rfl ?_
    refine mW_getR dX10_load_69 f_X10_12 (s2k (mS2.of q3.1.1) (s2k (mS2.of q2.1.1) (s2k (S2_sfi e1) (s2k (mS2.of q1.1.1) h1)))) rfl (s2r (mS2.of q3.1.1) (s2r (mS2.of q2.1.1) (s2r (S2_sfi e1) (s2r (mS2.of q1.1.1) h6)))) ?_
    refine mW_getR dX10_load_72 f_X10_218 (s2k (mS2.of q3.1.1) (s2k (mS2.of q2.1.1) (s2k (S2_sfi e1) (s2k (mS2.of q1.1.1) h9)))) rfl (s2r (mS2.of q3.1.1) (s2r (mS2.of q2.1.1) (s2r (S2_sfi e1) (s2r (mS2.of q1.1.1) h10)))) ?_
    refine mW_get dX10_load_75 f_X10_232 (s2k (mS2.of q3.1.1) (s2k (mS2.of q2.1.1) (s2k (S2_sfi e1) (s2k (mS2.of q1.1.1) h12)))) rfl ?_
    refine mW_iadd dX10_load_78 ?_
    exact mW_iret dX10_load_79 rfl (k1 w1 q1 w2 e1 c1 w3 q2 w4 q3)
  · exact mW_thr (text := "there is an error in the text") (names := ["java/lang/RuntimeException", "java/lang/Exception"]) dX10_load_20 dX10_load_23 dX10_load_24 dX10_load_26 dX10_load_29 th_96_100 (by decide +kernel) rfl (Nat.le_of_ble_eq_true rfl) (by decide) (by decide) (by decide) (k2 w1 q1 w2 e1 c1)
theorem tX10_load {G : mG} {w : mH} {a0 : Nat} {c : Nat} {R : Nat → Nat → Int32} {A : Nat → Int32} {n : Nat} {lt : Nat → Nat} {B : Nat → Int32} (z : zBen w a0) (hH : hRep w (a0 + 35) c R) (hS : sRep w (a0 + 1) A) (hL : rdL w (a0 + 139) lt n) (hB1 : B 40 = 0) (hB2 : B 65 = 0) : mC G mX10_load 9 1 6 [.ref a0] w (tpO "java/lang/IllegalArgumentException" "" "" (if isL (pTxt lt n 50 0 B) = 0 then 1 else 0) (.int (ldV (pTxt lt n 50 0 B))) (fun u => mFr (a0 + 139) (a0 + 148) w u ∧ hfi u (a0 + 139) 1 = 0 ∧ ∀ q, pTxt lt n 50 0 B = .inr q → hfi u (a0 + 139) 2 = nI q) (fun u => mF2 (a0 + 1) (a0 + 18) (a0 + 35) (a0 + 148) w u ∧ hfi u (a0 + 139) 1 = 0 ∧ hfi u (a0 + 139) 2 = -1 ∧ hRep u (a0 + 35) (min (c + 1) 6) (hPush R c A) ∧ ∀ x, pTxt lt n 50 0 B = .inl x → sRep u (a0 + 1) (fun k => if 40 ≤ k then x k else A k))) := by
  refine mC_of (by decide +kernel) rfl (Nat.le_of_ble_eq_true rfl) rfl ?_
  refine gX10_load_0 (c := c) (R := R) (A := A) (n := n) (lt := lt) (B := B) (a0_4 := a0 + 139) (a0_3 := a0 + 35) (a0_0 := a0 + 1) (a0_0_4 := a0 + 11) (a0_4_3 := a0 + 141) z.1 z.2.2.2.2.1 z.2.2.2.2.2.2.2.2.2.2.2.2.2.2.1.1 z.2.2.2.2.2.2.2.2.2.2.2.2.2.2.1 (by exact hL.1) (by exact hL.2.1) (by exact hL.2.2) (by exact hB1) (by exact hB2) z.2.2.2.1 z.2.1 z.2.2.2.2.2.2.2.2.2.2.2.2.2.1.1 (by intro w1 q1 w2 e1 c1; have f := (mFr_sfi q1.1 (by omega) (by omega) : mFr (a0 + 139) (a0 + 139 + 9) w (sfi w1 (a0 + 139) 1 0)); rw [← e1] at f; exact zHis_sh f.1 (z.2.2.2.2.2.2.2.2.2.2.2.2.2.1)) z.2.2.2.2.2.2.2.2.2.2.2.1 (by intro w1 q1 w2 e1 c1; omega) (by intro w1 q1 w2 e1 c1; have f := (mFr_sfi q1.1 (by omega) (by omega) : mFr (a0 + 139) (a0 + 139 + 9) w (sfi w1 (a0 + 139) 1 0)); rw [← e1] at f; exact hRep_fr f (by omega) hH) (by intro w1 q1 w2 e1 c1; have f := (mFr_sfi q1.1 (by omega) (by omega) : mFr (a0 + 139) (a0 + 139 + 9) w (sfi w1 (a0 + 139) 1 0)); rw [← e1] at f; exact sRep_fr f (by omega) hS) z.2.2.2.2.2.2.2.2.2.2.2.1.1 z.2.2.2.2.2.2.2.2.2.2.2.1.2.2.2.2.2.1 z.2.2.2.2.2.2.2.2.2.2.2.2.2.2.1.2.2.1 z.2.2.2.2.2.2.2.2.2.2.2.1.2.2.2.2.2.2.2.2.2.2.1 z.2.2.2.2.2.2.2.2.2.2.2.1.2.2.2.2.2.2.2.2.2.2 z.2.2.2.2.2.2.2.2.2.2.2.2.2.2.1.2.2.2.2 (by intro w1 q1 w2 e1 c1 w3 q2; omega) ?_ ?_
  · intro w1 q1 w2 e1 c1 w3 q2 w4 q3
    obtain ⟨x, hx⟩ := ldL_1 c1
    have f1 : mFr (a0 + 139) (a0 + 148) w w2 := by rw [e1]; exact mFr_sfi (q1.1.wide (by omega) (by omega)) (by omega) (by omega)
    have K1 : kRep w1 (a0 + 139 + 2) x := (q1.2.2.2.1 x hx).2
    have fe : mFr (a0 + 139) (a0 + 140) w1 w2 := by rw [e1]; exact mFr_sfi mFr.rf (by omega) (by omega)
    have K2 : kRep w2 (a0 + 139 + 2) x := kRep_fr fe (by omega) K1
    have K3 : kRep w3 (a0 + 139 + 2) x := kRep_fr q2.1 (by omega) K2
    have K4 : kRep w4 (a0 + 11) x := q3.2 x K3
    have S3 : sRep w3 (a0 + 1) A := sRep_fr q2.1 (by omega) (sRep_fr f1 (by omega) hS)
    have f34 : mFr (a0 + 11) (a0 + 18) w3 w4 := q3.1.wide (by omega) (by omega)
    have K5 : kRep w4 (a0 + 1 + 10) (fun k => if 40 ≤ k then x k else A k) := kRep_A (fun k h _ => by show (if 40 ≤ k then x k else A k) = _; rw [if_pos h]) K4
    refine tp_okv (by rw [if_neg c1]) ?_ ⟨?_, ?_, ?_, hRep_fr f34 (by omega) q2.2, fun x' hx' => ?_⟩
    · rw [hx]
      show Value.int (hfi w4 (a0 + 11) 3 + hfi w4 (a0 + 11) 7) = Value.int (nI (nSg x + nPs x))
      rw [(kRep_c K4).1, (kRep_c K4).2, nI_ad]
    · exact ((f1.f2 (by omega) (by omega)).tr (q2.1.f2 (by omega) (by omega))).tr (f34.f1 (by omega) (by omega))
    · rw [f34.hfi (by omega), q2.1.hfi (by omega), e1, e_hfi_sfi, up2_at]
    · rw [f34.hfi (by omega), q2.1.hfi (by omega), e1, e_hfi_sfi, up2_k _ _ _ (by decide)]
      exact (q1.2.2.2.1 x hx).1
    · have ex : x' = x := by rw [hx] at hx'; cases hx'; rfl
      subst ex
      exact sRep_trk S3 (f34.wide (by omega) (by omega)) K5 (fun k hk => by show (if 40 ≤ k then x' k else A k) = _; rw [if_neg (by omega)])
  · intro w1 q1 w2 e1 c1
    obtain ⟨q, hq⟩ := ldL_0 c1
    have f1 : mFr (a0 + 139) (a0 + 148) w w2 := by rw [e1]; exact mFr_sfi (q1.1.wide (by omega) (by omega)) (by omega) (by omega)
    refine tp_1 (by rw [if_pos c1]) ⟨f1, by rw [e1, e_hfi_sfi, up2_at], fun q' hq' => ?_⟩
    rw [e1, e_hfi_sfi, up2_k _ _ _ (by decide)]
    exact q1.2.2.2.2 q' hq'
