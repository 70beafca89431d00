abbrev mJ5_setLength_d00df : mM := (yJ5_setLength_d00df, cJ5_setLength_d00df, 2, none, [])
set_option maxHeartbeats 4000000 in
set_option maxRecDepth 100000 in
theorem gJ5_setLength_d00df_0 {G : mG} {w : mH} {Φ : mF} {a0 : Nat} {x1 : Int32} (h1 : hk w a0 = (12, 0)) (k1 : (0 ≤ x1) → mC G mJ5_ensureCapacityInternal_d00df 4 1 142 [.ref a0, .int x1] w (mRv G mJ5_setLength_d00df 5 0 0 18 [(0, .ref a0), (1, .int x1)] [] Φ)) (k2 : (¬ (0 ≤ x1)) → False) : mW G mJ5_setLength_d00df 5 1 142 0 [(0, .ref a0), (1, .int x1)] [] w Φ := by
  refine mW_iload_n (j := 1) dJ5_setLength_d00df_0 rfl rfl ?_
  refine mW_if_ge (tgt := 13) dJ5_setLength_d00df_1 (by decide) (fun c1 => ?_) (fun c1 => ?_)
  · refine mW_aload_n (j := 0) dJ5_setLength_d00df_13 rfl rfl ?_
    refine mW_iload_n (j := 1) dJ5_setLength_d00df_14 rfl rfl ?_
    refine mW_callU (As := [.int x1]) (rest := []) (kc2 := 0) (ks2 := 0) dJ5_setLength_d00df_15 l_J5_100 rfl h1 rfl (by decide) (k1 c1) (Nat.le_of_ble_eq_true rfl) (by decide) rfl rfl mRvx mRvk
  · exact (k2 c1).elim
theorem u299 : (Cond.fieldLink "java/lang/AbstractStringBuilder" 73 "java/lang/AbstractStringBuilder" "maybeLatin1" "Z" : Cond) ∈ mTs := mTs_in 299 (by decide +kernel) (by decide +kernel)
theorem p_J5_73 : mPut "java/lang/AbstractStringBuilder" 73 12 2 (.boolean) false := ⟨RJ4, TJ4, 4, "java/lang/AbstractStringBuilder", tyJ4, rfl, by decide, in_J4, u299, Or.inl rfl, by decide, tyJ4_ok, nmJ4, by decide +kernel, rfl, fun h => by cases h⟩
theorem ob_12_2 (w : mH) (a : Nat) (v : Int32) : mOb (sfi w a 2 v) a 12 = (mOb w a 12).set 2 (.int v) := by simp [mOb, hfi_sfi, hfl_sfi, hfr_sfi, up2]
set_option maxHeartbeats 4000000 in
set_option maxRecDepth 100000 in
theorem gJ5_setLength_d00df_18 {G : mG} {w : mH} {Φ : mF} {a0 : Nat} {x1 : Int32} (h1 : hk w a0 = (12, 0)) (k1 : (x1 ≤ (hfi w a0 3)) → ((hfi w a0 3) ≤ x1) → ∀ w1 : mH, (w1 = sfi w a0 3 x1) → Φ (.inl none) w1) (k2 : (x1 ≤ (hfi w a0 3)) → (¬ ((hfi w a0 3) ≤ x1)) → ∀ w2 : mH, (w2 = sfi w a0 2 1) → ∀ w3 : mH, (w3 = sfi w2 a0 3 x1) → Φ (.inl none) w3) (k3 : (¬ (x1 ≤ (hfi w a0 3))) → mW G mJ5_setLength_d00df 5 0 0 26 [(0, .ref a0), (1, .int x1)] [] w Φ) : mW G mJ5_setLength_d00df 5 0 0 18 [(0, .ref a0), (1, .int x1)] [] w Φ := by
  refine mW_aload_n (j := 0) dJ5_setLength_d00df_18 rfl rfl ?_
  refine mW_get dJ5_setLength_d00df_19 f_J5_79 h1 rfl ?_
  refine mW_iload_n (j := 1) dJ5_setLength_d00df_22 rfl rfl ?_
  refine mW_icmp_ge (tgt := 63) dJ5_setLength_d00df_23 (by decide) (fun c1 => ?_) (fun c1 => ?_)
  · refine mW_aload_n (j := 0) dJ5_setLength_d00df_63 rfl rfl ?_
    refine mW_get dJ5_setLength_d00df_64 f_J5_79 h1 rfl ?_
    refine mW_iload_n (j := 1) dJ5_setLength_d00df_67 rfl rfl ?_
    refine mW_icmp_le (tgt := 76) dJ5_setLength_d00df_68 (by decide) (fun c2 => ?_) (fun c2 => ?_)
    · refine mW_aload_n (j := 0) dJ5_setLength_d00df_76 rfl rfl ?_
      refine mW_iload_n (j := 1) dJ5_setLength_d00df_77 rfl rfl ?_
      refine mW_put (ty := .int) (w2 := sfi w a0 3 x1) dJ5_setLength_d00df_78 p_J5_79 h1 (Nat.le_of_ble_eq_true rfl) (by first | rfl | decide | (repeat' split) <;> rfl) rfl (hN_sfi _ _ _ _) (hk_sfi _ _ _ _) (mE_sfi h1 (by decide) (ob_12_3 _ _ _)) ?_
      refine mW_nm (fun w1 e1 => ?_)
      exact mW_vret dJ5_setLength_d00df_81 rfl (k1 c1 c2 w1 e1)
    · refine mW_aload_n (j := 0) dJ5_setLength_d00df_71 rfl rfl ?_
      refine mW_iconst (v := 1) dJ5_setLength_d00df_72 (by decide) ?_
      refine mW_put (ty := .boolean) (w2 := sfi w a0 2 1) dJ5_setLength_d00df_73 p_J5_73 h1 (Nat.le_of_ble_eq_true rfl) (by first | rfl | decide | (repeat' split) <;> rfl) rfl (hN_sfi _ _ _ _) (hk_sfi _ _ _ _) (mE_sfi h1 (by decide) (ob_12_2 _ _ _)) ?_
      refine mW_nm (fun w2 e2 => ?_)
      refine mW_aload_n (j := 0) dJ5_setLength_d00df_76 rfl rfl ?_
      refine mW_iload_n (j := 1) dJ5_setLength_d00df_77 rfl rfl ?_
      refine mW_put (ty := .int) (w2 := sfi w2 a0 3 x1) dJ5_setLength_d00df_78 p_J5_79 (s2k (S2_sfi e2) h1) (Nat.le_of_ble_eq_true rfl) (by first | rfl | decide | (repeat' split) <;> rfl) rfl (hN_sfi _ _ _ _) (hk_sfi _ _ _ _) (mE_sfi (s2k (S2_sfi e2) h1) (by decide) (ob_12_3 _ _ _)) ?_
      refine mW_nm (fun w3 e3 => ?_)
      exact mW_vret dJ5_setLength_d00df_81 rfl (k2 c1 c2 w2 e2 w3 e3)
  · exact k3 c1
set_option maxHeartbeats 4000000 in
set_option maxRecDepth 100000 in
theorem gJ5_setLength_d00df_63 {G : mG} {w : mH} {Φ : mF} {a0 : Nat} {x1 : Int32} (h1 : hk w a0 = (12, 0)) (k1 : ((hfi w a0 3) ≤ x1) → ∀ w1 : mH, (w1 = sfi w a0 3 x1) → Φ (.inl none) w1) (k2 : (¬ ((hfi w a0 3) ≤ x1)) → ∀ w2 : mH, (w2 = sfi w a0 2 1) → ∀ w3 : mH, (w3 = sfi w2 a0 3 x1) → Φ (.inl none) w3) : mW G mJ5_setLength_d00df 5 0 0 63 [(0, .ref a0), (1, .int x1)] [] w Φ := by
  refine mW_aload_n (j := 0) dJ5_setLength_d00df_63 rfl rfl ?_
  refine mW_get dJ5_setLength_d00df_64 f_J5_79 h1 rfl ?_
  refine mW_iload_n (j := 1) dJ5_setLength_d00df_67 rfl rfl ?_
  refine mW_icmp_le (tgt := 76) dJ5_setLength_d00df_68 (by decide) (fun c1 => ?_) (fun c1 => ?_)
  · refine mW_aload_n (j := 0) dJ5_setLength_d00df_76 rfl rfl ?_
    refine mW_iload_n (j := 1) dJ5_setLength_d00df_77 rfl rfl ?_
    refine mW_put (ty := .int) (w2 := sfi w a0 3 x1) dJ5_setLength_d00df_78 p_J5_79 h1 (Nat.le_of_ble_eq_true rfl) (by first | rfl | decide | (repeat' split) <;> rfl) rfl (hN_sfi _ _ _ _) (hk_sfi _ _ _ _) (mE_sfi h1 (by decide) (ob_12_3 _ _ _)) ?_
    refine mW_nm (fun w1 e1 => ?_)
    exact mW_vret dJ5_setLength_d00df_81 rfl (k1 c1 w1 e1)
  · refine mW_aload_n (j := 0) dJ5_setLength_d00df_71 rfl rfl ?_
    refine mW_iconst (v := 1) dJ5_setLength_d00df_72 (by decide) ?_
    refine mW_put (ty := .boolean) (w2 := sfi w a0 2 1) dJ5_setLength_d00df_73 p_J5_73 h1 (Nat.le_of_ble_eq_true rfl) (by first | rfl | decide | (repeat' split) <;> rfl) rfl (hN_sfi _ _ _ _) (hk_sfi _ _ _ _) (mE_sfi h1 (by decide) (ob_12_2 _ _ _)) ?_
    refine mW_nm (fun w2 e2 => ?_)
    refine mW_aload_n (j := 0) dJ5_setLength_d00df_76 rfl rfl ?_
    refine mW_iload_n (j := 1) dJ5_setLength_d00df_77 rfl rfl ?_
    refine mW_put (ty := .int) (w2 := sfi w2 a0 3 x1) dJ5_setLength_d00df_78 p_J5_79 (s2k (S2_sfi e2) h1) (Nat.le_of_ble_eq_true rfl) (by first | rfl | decide | (repeat' split) <;> rfl) rfl (hN_sfi _ _ _ _) (hk_sfi _ _ _ _) (mE_sfi (s2k (S2_sfi e2) h1) (by decide) (ob_12_3 _ _ _)) ?_
    refine mW_nm (fun w3 e3 => ?_)
    exact mW_vret dJ5_setLength_d00df_81 rfl (k2 c1 w2 e2 w3 e3)
abbrev mJ4_setLength_d00df : mM := (yJ4_setLength_d00df, cJ4_setLength_d00df, 2, none, [])
theorem u1038 : (Cond.code ⟨"java/lang/AbstractStringBuilder", "setLength", "(I)V"⟩ prog_15_method_13_code 2 (none : Option ClassFile.FieldType) : Cond) ∈ mTs := mTs_in 1038 (by decide +kernel) (by decide +kernel)
theorem co_J5_setLength_d00df : mCode mJ5_setLength_d00df := ⟨u1038, u77, by decide⟩
theorem u1036 : (Cond.methodLink "java/lang/StringBuilder" 333 ⟨"java/lang/AbstractStringBuilder", "setLength", "(I)V"⟩ : Cond) ∈ mTs := mTs_in 1036 (by decide +kernel) (by decide +kernel)
theorem u1037 : (Cond.instanceMethod ⟨"java/lang/AbstractStringBuilder", "setLength", "(I)V"⟩ : Cond) ∈ mTs := mTs_in 1037 (by decide +kernel) (by decide +kernel)
theorem u1988 : (Cond.sameMethod "java/lang/AbstractStringBuilder" "java/lang/AbstractStringBuilder" "setLength" "(I)V" : Cond) ∈ mTs := mTs_in 1988 (by decide +kernel) (by decide +kernel)
theorem l_J4_333 : mLinkSU "java/lang/StringBuilder" 333 1 mJ5_setLength_d00df := ⟨⟨by decide, by decide, by decide +kernel⟩, co_J5_setLength_d00df, u1036, u1037, u1988, u310, by decide⟩
set_option maxHeartbeats 4000000 in
set_option maxRecDepth 100000 in
theorem gJ4_setLength_d00df_0 {G : mG} {w : mH} {Φ : mF} {a0 : Nat} {x1 : Int32} (h1 : hk w a0 = (12, 0)) (k1 : mC G mJ5_setLength_d00df 5 1 142 [.ref a0, .int x1] w (mRv G mJ4_setLength_d00df 6 0 0 5 [(0, .ref a0), (1, .int x1)] [] Φ)) : mW G mJ4_setLength_d00df 6 1 142 0 [(0, .ref a0), (1, .int x1)] [] w Φ := by
  refine mW_aload_n (j := 0) dJ4_setLength_d00df_0 rfl rfl ?_
  refine mW_iload_n (j := 1) dJ4_setLength_d00df_1 rfl rfl ?_
  refine mW_callSU (As := [.int x1]) (rest := []) (kc2 := 0) (ks2 := 0) dJ4_setLength_d00df_2 l_J4_333 rfl h1 rfl (by decide) (k1) (Nat.le_of_ble_eq_true rfl) (by decide) rfl rfl mRvx mRvk
set_option maxHeartbeats 4000000 in
set_option maxRecDepth 100000 in
theorem gJ4_setLength_d00df_5 {G : mG} {w : mH} {Φ : mF} {a0 : Nat} {x1 : Int32}  (k1 : Φ (.inl none) w) : mW G mJ4_setLength_d00df 6 0 0 5 [(0, .ref a0), (1, .int x1)] [] w Φ := by
  exact mW_vret dJ4_setLength_d00df_5 rfl (k1)
abbrev mJ3_checkIndex_8e157 : mM := (yJ3_checkIndex_8e157, cJ3_checkIndex_8e157, 3, (some .int), [])
set_option maxHeartbeats 4000000 in
set_option maxRecDepth 100000 in
theorem gJ3_checkIndex_8e157_0 {G : mG} {w : mH} {Φ : mF} {x0 x1 : Int32} {v2 : Option Nat}  (k1 : (x0 < 0) → mW G mJ3_checkIndex_8e157 1 0 0 9 [(0, .int x0), (1, .int x1), (2, va_rf v2)] [] w Φ) (k2 : (¬ (x0 < 0)) → (x0 < x1) → Φ (.inl (some (.int x0))) w) (k3 : (¬ (x0 < 0)) → (¬ (x0 < x1)) → mW G mJ3_checkIndex_8e157 1 0 0 9 [(0, .int x0), (1, .int x1), (2, va_rf v2)] [] w Φ) : mW G mJ3_checkIndex_8e157 1 0 0 0 [(0, .int x0), (1, .int x1), (2, va_rf v2)] [] w Φ := by
  refine mW_iload_n (j := 0) dJ3_checkIndex_8e157_0 rfl rfl ?_
  refine mW_if_lt (tgt := 9) dJ3_checkIndex_8e157_1 (by decide) (fun c1 => ?_) (fun c1 => ?_)
  · exact k1 c1
  · refine mW_iload_n (j := 0) dJ3_checkIndex_8e157_4 rfl rfl ?_
    refine mW_iload_n (j := 1) dJ3_checkIndex_8e157_5 rfl rfl ?_
    refine mW_icmp_lt (tgt := 16) dJ3_checkIndex_8e157_6 (by decide) (fun c2 => ?_) (fun c2 => ?_)
    · refine mW_iload_n (j := 0) dJ3_checkIndex_8e157_16 rfl rfl ?_
      exact mW_iret dJ3_checkIndex_8e157_17 rfl (k2 c1 c2)
    · exact k3 c1 c2
abbrev mJ5_charAt_5068e : mM := (yJ5_charAt_5068e, cJ5_charAt_5068e, 5, (some .char), [])
theorem u1339 : (Cond.methodLink "java/lang/AbstractStringBuilder" 138 ⟨"java/lang/Math", "min", "(II)I"⟩ : Cond) ∈ mTs := mTs_in 1339 (by decide +kernel) (by decide +kernel)
theorem u1325 : (Cond.code ⟨"java/lang/String", "checkIndex", "(II)V"⟩ prog_31_method_155_code 2 (none : Option ClassFile.FieldType) : Cond) ∈ mTs := mTs_in 1325 (by decide +kernel) (by decide +kernel)
theorem u79 : (Cond.initialized "java/lang/String" : Cond) ∈ mTs := mTs_in 79 (by decide +kernel) (by decide +kernel)
abbrev mJ0_checkIndex_df160 : mM := (yJ0_checkIndex_df160, cJ0_checkIndex_df160, 2, none, [])
theorem co_J0_checkIndex_df160 : mCode mJ0_checkIndex_df160 := ⟨u1325, u79, by decide⟩
theorem u1340 : (Cond.methodLink "java/lang/AbstractStringBuilder" 144 ⟨"java/lang/String", "checkIndex", "(II)V"⟩ : Cond) ∈ mTs := mTs_in 1340 (by decide +kernel) (by decide +kernel)
theorem u1324 : (Cond.static ⟨"java/lang/String", "checkIndex", "(II)V"⟩ : Cond) ∈ mTs := mTs_in 1324 (by decide +kernel) (by decide +kernel)
theorem l_J5_144 : mLinkS "java/lang/AbstractStringBuilder" 144 2 mJ0_checkIndex_df160 := ⟨⟨by decide, by decide, by decide +kernel⟩, co_J0_checkIndex_df160, u1340, u1324⟩
set_option maxHeartbeats 4000000 in
set_option maxRecDepth 100000 in
theorem gJ5_charAt_5068e_0 {G : mG} {w : mH} {Φ : mF} {a0 : Nat} {x1 : Int32} {a0_0 n_a0_0 : Nat} (h1 : hk w a0 = (12, 0)) (h2 : hfr w a0 0 = some a0_0) (h3 : hk w a0_0 = (19, n_a0_0)) (k1 : mC G mJ0_checkIndex_df160 2 0 0 [.int x1, .int (iMin (hfi w a0 3) ((nI n_a0_0) >>> ((hfi w a0 1) &&& 31)))] w (mRv G mJ5_charAt_5068e 4 0 0 29 [(4, .int (iMin (hfi w a0 3) ((nI n_a0_0) >>> ((hfi w a0 1) &&& 31)))), (3, .ref a0_0), (2, .int (hfi w a0 1)), (0, .ref a0), (1, .int x1)] [] Φ)) : mW G mJ5_charAt_5068e 4 0 0 0 [(0, .ref a0), (1, .int x1)] [] w Φ := by
  refine mW_aload_n (j := 0) dJ5_charAt_5068e_0 rfl rfl ?_
  refine mW_get dJ5_charAt_5068e_1 f_J5_22 h1 rfl ?_
  refine mW_istore_n (lv2 := [(2, .int (hfi w a0 1)), (0, .ref a0), (1, .int x1)]) dJ5_charAt_5068e_4 rfl (by decide) rfl ?_
  refine mW_aload_n (j := 1) dJ5_charAt_5068e_5 rfl rfl ?_
  refine mW_getR dJ5_charAt_5068e_6 f_J5_15 h1 rfl h2 ?_
  refine mW_astore_n (lv2 := [(3, .ref a0_0), (2, .int (hfi w a0 1)), (0, .ref a0), (1, .int x1)]) dJ5_charAt_5068e_9 rfl (by decide) rfl ?_
  refine mW_aload_n (j := 2) dJ5_charAt_5068e_10 rfl rfl ?_
  refine mW_get dJ5_charAt_5068e_11 f_J5_79 h1 rfl ?_
  refine mW_aload_n (j := 0) dJ5_charAt_5068e_14 rfl rfl ?_
  refine mW_alen dJ5_charAt_5068e_15 h3 (by decide) (by decide) (by decide) ?_
  refine mW_iload_n (j := 1) dJ5_charAt_5068e_16 rfl rfl ?_
  refine mW_ishr dJ5_charAt_5068e_17 ?_
  refine mW_mminA dJ5_charAt_5068e_18 u1339 u500 u91 u501 (Nat.le_of_ble_eq_true rfl) (by decide) ?_
  refine mW_istore (lv2 := [(4, .int (iMin (hfi w a0 3) ((nI n_a0_0) >>> ((hfi w a0 1) &&& 31)))), (3, .ref a0_0), (2, .int (hfi w a0 1)), (0, .ref a0), (1, .int x1)]) dJ5_charAt_5068e_21 (by decide) rfl ?_
  refine mW_iload_n (j := 4) dJ5_charAt_5068e_23 rfl rfl ?_
  refine mW_iload (j := 0) dJ5_charAt_5068e_24 rfl ?_
  refine mW_callS (As := [.int x1, .int (iMin (hfi w a0 3) ((nI n_a0_0) >>> ((hfi w a0 1) &&& 31)))]) (rest := []) (kc2 := 0) (ks2 := 0) dJ5_charAt_5068e_26 l_J5_144 rfl (k1) (Nat.le_of_ble_eq_true rfl) (by decide) rfl rfl mRvx mRvk
set_option maxHeartbeats 4000000 in
set_option maxRecDepth 100000 in
theorem gJ5_charAt_5068e_29 {G : mG} {w : mH} {Φ : mF} {a0 : Nat} {x1 x2 : Int32} {a3 : Nat} {x4 : Int32} {n_a3 : Nat} (h1 : hk w a3 = (19, n_a3)) (s1 : (x2 = 0) → vp_in x1 n_a3) (s2 : (x2 = 0) → narrow .char (.int ((((hai w a3 x1.toNatClampNeg) &&& 255).toUInt32 % 65536).toInt32)) = .int ((((hai w a3 x1.toNatClampNeg) &&& 255).toUInt32 % 65536).toInt32)) (k1 : (¬ (x2 = 0)) → mW G mJ5_charAt_5068e 4 0 0 42 [(0, .ref a0), (1, .int x1), (2, .int x2), (3, .ref a3), (4, .int x4)] [] w Φ) (k2 : (x2 = 0) → Φ (.inl (some (.int ((((hai w a3 x1.toNatClampNeg) &&& 255).toUInt32 % 65536).toInt32)))) w) : mW G mJ5_charAt_5068e 4 0 0 29 [(0, .ref a0), (1, .int x1), (2, .int x2), (3, .ref a3), (4, .int x4)] [] w Φ := by
  refine mW_iload_n (j := 2) dJ5_charAt_5068e_29 rfl rfl ?_
  refine mW_if_ne (tgt := 42) dJ5_charAt_5068e_30 (by decide) (fun c1 => ?_) (fun c1 => ?_)
  · exact k1 c1
  · refine mW_aload_n (j := 3) dJ5_charAt_5068e_33 rfl rfl ?_
    refine mW_iload_n (j := 1) dJ5_charAt_5068e_34 rfl rfl ?_
    refine mW_baldJ dJ5_charAt_5068e_35 h1 (s1 c1) rfl ?_
    refine mW_sipush (v := 255) dJ5_charAt_5068e_36 (by decide) ?_
    refine mW_iand dJ5_charAt_5068e_39 ?_
    refine mW_i2c dJ5_charAt_5068e_40 rfl ?_
    exact mW_zret (ty := .char) dJ5_charAt_5068e_41 rfl ((s2 c1)) (k2 c1)
abbrev mJ4_charAt_5068e : mM := (yJ4_charAt_5068e, cJ4_charAt_5068e, 2, (some .char), [])
theorem u1338 : (Cond.code ⟨"java/lang/AbstractStringBuilder", "charAt", "(I)C"⟩ prog_15_method_14_code 5 (some .char) : Cond) ∈ mTs := mTs_in 1338 (by decide +kernel) (by decide +kernel)
theorem co_J5_charAt_5068e : mCode mJ5_charAt_5068e := ⟨u1338, u77, by decide⟩
theorem u1336 : (Cond.methodLink "java/lang/StringBuilder" 329 ⟨"java/lang/AbstractStringBuilder", "charAt", "(I)C"⟩ : Cond) ∈ mTs := mTs_in 1336 (by decide +kernel) (by decide +kernel)
theorem u1337 : (Cond.instanceMethod ⟨"java/lang/AbstractStringBuilder", "charAt", "(I)C"⟩ : Cond) ∈ mTs := mTs_in 1337 (by decide +kernel) (by decide +kernel)
theorem u1999 : (Cond.sameMethod "java/lang/AbstractStringBuilder" "java/lang/AbstractStringBuilder" "charAt" "(I)C" : Cond) ∈ mTs := mTs_in 1999 (by decide +kernel) (by decide +kernel)
theorem l_J4_329 : mLinkSU "java/lang/StringBuilder" 329 1 mJ5_charAt_5068e := ⟨⟨by decide, by decide, by decide +kernel⟩, co_J5_charAt_5068e, u1336, u1337, u1999, u310, by decide⟩
set_option maxHeartbeats 4000000 in
set_option maxRecDepth 100000 in
theorem gJ4_charAt_5068e_0 {G : mG} {w : mH} {Φ : mF} {a0 : Nat} {x1 : Int32} (h1 : hk w a0 = (12, 0)) (k1 : mC G mJ5_charAt_5068e 4 0 0 [.ref a0, .int x1] w (mRi G mJ4_charAt_5068e 5 0 0 5 [(0, .ref a0), (1, .int x1)] [] Φ)) : mW G mJ4_charAt_5068e 5 0 0 0 [(0, .ref a0), (1, .int x1)] [] w Φ := by
  refine mW_aload_n (j := 0) dJ4_charAt_5068e_0 rfl rfl ?_
  refine mW_iload_n (j := 1) dJ4_charAt_5068e_1 rfl rfl ?_
  refine mW_callSU (As := [.int x1]) (rest := []) (kc2 := 0) (ks2 := 0) dJ4_charAt_5068e_2 l_J4_329 rfl h1 rfl (by decide) (k1) (Nat.le_of_ble_eq_true rfl) (by decide) rfl rfl mRix mRik
set_option maxHeartbeats 4000000 in
set_option maxRecDepth 100000 in
theorem gJ4_charAt_5068e_5 {G : mG} {w : mH} {Φ : mF} {a0 : Nat} {x1 x_0 : Int32} (s1 : narrow .char (.int x_0) = .int x_0) (k1 : Φ (.inl (some (.int x_0))) w) : mW G mJ4_charAt_5068e 5 0 0 5 [(0, .ref a0), (1, .int x1)] [.int x_0] w Φ := by
  exact mW_zret (ty := .char) dJ4_charAt_5068e_5 rfl (s1) (k1)
theorem u452 : (Cond.fieldLink "LineFollowerBench" 40 "LineFollowerBench" "description" "Ljava/lang/StringBuilder;" : Cond) ∈ mTs := mTs_in 452 (by decide +kernel) (by decide +kernel)
theorem f_X10_40 : mFld "LineFollowerBench" 40 10 5 := ⟨RX10, TX10, 12, "LineFollowerBench", rfl, by decide, in_X10, u452, Or.inl rfl, by decide⟩
theorem u1035 : (Cond.code ⟨"java/lang/StringBuilder", "setLength", "(I)V"⟩ prog_32_method_89_code 2 (none : Option ClassFile.FieldType) : Cond) ∈ mTs := mTs_in 1035 (by decide +kernel) (by decide +kernel)
theorem co_J4_setLength_d00df : mCode mJ4_setLength_d00df := ⟨u1035, u78, by decide⟩
theorem u1032 : (Cond.methodLink "LineFollowerBench" 238 ⟨"java/lang/StringBuilder", "setLength", "(I)V"⟩ : Cond) ∈ mTs := mTs_in 1032 (by decide +kernel) (by decide +kernel)
theorem u1033 : (Cond.instanceMethod ⟨"java/lang/StringBuilder", "setLength", "(I)V"⟩ : Cond) ∈ mTs := mTs_in 1033 (by decide +kernel) (by decide +kernel)
theorem u1034 : (Cond.selects "java/lang/StringBuilder" ⟨"java/lang/StringBuilder", "setLength", "(I)V"⟩ ⟨"java/lang/StringBuilder", "setLength", "(I)V"⟩ : Cond) ∈ mTs := mTs_in 1034 (by decide +kernel) (by decide +kernel)
theorem l_X10_238 : mLinkV "LineFollowerBench" 238 1 mJ4_setLength_d00df := ⟨⟨by decide, by decide, by decide +kernel⟩, co_J4_setLength_d00df, u1032, u1033, u1034⟩
set_option maxHeartbeats 4000000 in
set_option maxRecDepth 100000 in
theorem gX10_describe_0 {G : mG} {w : mH} {Φ : mF} {a0 : Nat} {x1 : Int32} {a0_5 : Nat} (h1 : hk w a0 = (10, 0)) (h2 : hfr w a0 5 = some a0_5) (h3 : hk w a0_5 = (12, 0)) (k1 : mC G mJ4_setLength_d00df 6 1 142 [.ref a0_5, .int 0] w (mRv G mX10_describe 9 83 11650 8 [(0, .ref a0), (1, .int x1)] [] Φ)) : mW G mX10_describe 9 84 11792 0 [(0, .ref a0), (1, .int x1)] [] w Φ := by
  refine mW_aload_n (j := 0) dX10_describe_0 rfl rfl ?_
  refine mW_getR dX10_describe_1 f_X10_40 h1 rfl h2 ?_
  refine mW_iconst (v := 0) dX10_describe_4 (by decide) ?_
  refine mW_callV (As := [.int 0]) (rest := []) (kc2 := 83) (ks2 := 11650) dX10_describe_5 l_X10_238 rfl h3 rfl (by decide) (k1) (Nat.le_of_ble_eq_true rfl) (by decide) rfl rfl mRvx mRvk
theorem u1302 : (Cond.code ⟨"LineFollowerBench$Track", "writeTo", "(Ljava/lang/StringBuilder;)V"⟩ prog_9_method_10_code 3 (none : Option ClassFile.FieldType) : Cond) ∈ mTs := mTs_in 1302 (by decide +kernel) (by decide +kernel)
theorem co_X7_writeTo : mCode mX7_writeTo := ⟨u1302, u74, by decide⟩
theorem u1299 : (Cond.methodLink "LineFollowerBench" 241 ⟨"LineFollowerBench$Track", "writeTo", "(Ljava/lang/StringBuilder;)V"⟩ : Cond) ∈ mTs := mTs_in 1299 (by decide +kernel) (by decide +kernel)
theorem u1300 : (Cond.instanceMethod ⟨"LineFollowerBench$Track", "writeTo", "(Ljava/lang/StringBuilder;)V"⟩ : Cond) ∈ mTs := mTs_in 1300 (by decide +kernel) (by decide +kernel)
theorem u1301 : (Cond.selects "LineFollowerBench$Track" ⟨"LineFollowerBench$Track", "writeTo", "(Ljava/lang/StringBuilder;)V"⟩ ⟨"LineFollowerBench$Track", "writeTo", "(Ljava/lang/StringBuilder;)V"⟩ : Cond) ∈ mTs := mTs_in 1301 (by decide +kernel) (by decide +kernel)
theorem l_X10_241 : mLinkV "LineFollowerBench" 241 1 mX7_writeTo := ⟨⟨by decide, by decide, by decide +kernel⟩, co_X7_writeTo, u1299, u1300, u1301⟩
set_option maxHeartbeats 4000000 in
set_option maxRecDepth 100000 in
theorem gX10_describe_8 {G : mG} {w : mH} {Φ : mF} {a0 : Nat} {x1 : Int32} {a0_0 a0_0_4 a0_5 : Nat} (h1 : hk w a0 = (10, 0)) (h2 : hfr w a0 0 = some a0_0) (h3 : hk w a0_0 = (3, 0)) (h4 : hfr w a0_0 4 = some a0_0_4) (h5 : hfr w a0 5 = some a0_5) (h6 : hk w a0_0_4 = (7, 0)) (k1 : mC G mX7_writeTo 8 82 11644 [.ref a0_0_4, .ref a0_5] w (mRv G mX10_describe 9 1 6 22 [(0, .ref a0), (1, .int x1)] [] Φ)) : mW G mX10_describe 9 83 11650 8 [(0, .ref a0), (1, .int x1)] [] w Φ := by
  refine mW_aload_n (j := 0) dX10_describe_8 rfl rfl ?_
  refine mW_getR dX10_describe_9 f_X10_12 h1 rfl h2 ?_
  refine mW_getR dX10_describe_12 f_X10_218 h3 rfl h4 ?_
  refine mW_aload_n (j := 0) dX10_describe_15 rfl rfl ?_
  refine mW_getR dX10_describe_16 f_X10_40 h1 rfl h5 ?_
  refine mW_callV (As := [.ref a0_5]) (rest := []) (kc2 := 1) (ks2 := 6) dX10_describe_19 l_X10_241 rfl h6 rfl (by decide) (k1) (Nat.le_of_ble_eq_true rfl) (by decide) rfl rfl mRvx mRvk
theorem u1330 : (Cond.methodLink "LineFollowerBench" 245 ⟨"java/lang/StringBuilder", "length", "()I"⟩ : Cond) ∈ mTs := mTs_in 1330 (by decide +kernel) (by decide +kernel)
theorem l_X10_245 : mLinkV "LineFollowerBench" 245 0 mJ4_length_8abf5 := ⟨⟨by decide, by decide, by decide +kernel⟩, co_J4_length_8abf5, u1330, u1206, u1997⟩
theorem u1335 : (Cond.code ⟨"java/lang/StringBuilder", "charAt", "(I)C"⟩ prog_32_method_88_code 2 (some .char) : Cond) ∈ mTs := mTs_in 1335 (by decide +kernel) (by decide +kernel)
theorem co_J4_charAt_5068e : mCode mJ4_charAt_5068e := ⟨u1335, u78, by decide⟩
theorem u1332 : (Cond.methodLink "LineFollowerBench" 249 ⟨"java/lang/StringBuilder", "charAt", "(I)C"⟩ : Cond) ∈ mTs := mTs_in 1332 (by decide +kernel) (by decide +kernel)
theorem u1333 : (Cond.instanceMethod ⟨"java/lang/StringBuilder", "charAt", "(I)C"⟩ : Cond) ∈ mTs := mTs_in 1333 (by decide +kernel) (by decide +kernel)
theorem u1334 : (Cond.selects "java/lang/StringBuilder" ⟨"java/lang/StringBuilder", "charAt", "(I)C"⟩ ⟨"java/lang/StringBuilder", "charAt", "(I)C"⟩ : Cond) ∈ mTs := mTs_in 1334 (by decide +kernel) (by decide +kernel)
theorem l_X10_249 : mLinkV "LineFollowerBench" 249 1 mJ4_charAt_5068e := ⟨⟨by decide, by decide, by decide +kernel⟩, co_J4_charAt_5068e, u1332, u1333, u1334⟩
set_option maxHeartbeats 4000000 in
set_option maxRecDepth 100000 in
theorem gX10_describe_22 {G : mG} {w : mH} {Φ : mF} {a0 : Nat} {x1 : Int32} {a0_5 : Nat} (h1 : hk w a0 = (10, 0)) (h2 : hfr w a0 5 = some a0_5) (h3 : hk w a0_5 = (12, 0)) (k1 : (¬ (x1 = (-1))) → (¬ ((vX10_isWithin x1 0 ((hfi w a0_5 3) - 1)) = 0)) → mC G mJ4_charAt_5068e 5 0 0 [.ref a0_5, .int x1] w (mRi G mX10_describe 9 1 6 70 [(0, .ref a0), (1, .int x1)] [] Φ)) (k2 : (¬ (x1 = (-1))) → ((vX10_isWithin x1 0 ((hfi w a0_5 3) - 1)) = 0) → ∀ n, hN w ≤ n → Φ (.inr "java/lang/IndexOutOfBoundsException") (snn w n)) (k3 : (x1 = (-1)) → Φ (.inl (some (.int (hfi w a0_5 3)))) w) : mW G mX10_describe 9 1 6 22 [(0, .ref a0), (1, .int x1)] [] w Φ := by
  refine mW_iload_n (j := 1) dX10_describe_22 rfl rfl ?_
  refine mW_iconst (v := (-1)) dX10_describe_23 (by decide) ?_
  refine mW_icmp_ne (tgt := 35) dX10_describe_24 (by decide) (fun c1 => ?_) (fun c1 => ?_)
  · refine mW_iload_n (j := 1) dX10_describe_35 rfl rfl ?_
    refine mW_iconst (v := 0) dX10_describe_36 (by decide) ?_
    refine mW_aload_n (j := 0) dX10_describe_37 rfl rfl ?_
    refine mW_getR dX10_describe_38 f_X10_40 h1 rfl h2 ?_
    refine mW_callVe (As := []) (rest := [.int 0, .int x1]) (kc2 := 1) (ks2 := 6) dX10_describe_41 l_X10_245 rfl h3 rfl (by decide) (qJ4_length_8abf5 (w := w) (a0 := a0_5) h3) (Nat.le_of_ble_eq_true rfl) (by decide) rfl rfl ?_
    refine mW_iconst (v := 1) dX10_describe_44 (by decide) ?_
    refine mW_isub dX10_describe_45 ?_
    refine mW_callSe (As := [.int x1, .int 0, .int ((hfi w a0_5 3) - 1)]) (rest := []) (kc2 := 1) (ks2 := 6) dX10_describe_46 l_X10_78 rfl (qX10_isWithin (w := w) (x0 := x1) (x1 := 0) (x2 := (hfi w a0_5 3) - 1)) (Nat.le_of_ble_eq_true rfl) (by decide) rfl rfl ?_
    refine mW_if_ne (tgt := 62) dX10_describe_49 (by decide) (fun c2 => ?_) (fun c2 => ?_)
    · refine mW_aload_n (j := 0) dX10_describe_62 rfl rfl ?_
      refine mW_getR dX10_describe_63 f_X10_40 h1 rfl h2 ?_
      refine mW_iload_n (j := 1) dX10_describe_66 rfl rfl ?_
      refine mW_callV (As := [.int x1]) (rest := []) (kc2 := 1) (ks2 := 6) dX10_describe_67 l_X10_249 rfl h3 rfl (by decide) (k1 c1 c2) (Nat.le_of_ble_eq_true rfl) (by decide) rfl rfl mRix mRik
    · exact mW_thr (text := "no such character") (names := ["java/lang/RuntimeException", "java/lang/Exception"]) dX10_describe_52 dX10_describe_55 dX10_describe_56 dX10_describe_58 dX10_describe_61 th_82_86 (by decide +kernel) rfl (Nat.le_of_ble_eq_true rfl) (by decide) (by decide) (by decide) (k2 c1 c2)
  · refine mW_aload_n (j := 0) dX10_describe_27 rfl rfl ?_
    refine mW_getR dX10_describe_28 f_X10_40 h1 rfl h2 ?_
    refine mW_callVe (As := []) (rest := []) (kc2 := 1) (ks2 := 6) dX10_describe_31 l_X10_245 rfl h3 rfl (by decide) (qJ4_length_8abf5 (w := w) (a0 := a0_5) h3) (Nat.le_of_ble_eq_true rfl) (by decide) rfl rfl ?_
    exact mW_iret dX10_describe_34 rfl (k3 c1)
set_option maxHeartbeats 4000000 in
set_option maxRecDepth 100000 in
theorem gX10_describe_70 {G : mG} {w : mH} {Φ : mF} {a0 : Nat} {x1 x_0 : Int32}  (k1 : Φ (.inl (some (.int x_0))) w) : mW G mX10_describe 9 1 6 70 [(0, .ref a0), (1, .int x1)] [.int x_0] w Φ := by
  exact mW_iret dX10_describe_70 rfl (k1)
theorem u1328 : (Cond.code ⟨"jdk/internal/util/Preconditions", "checkIndex", "(IILjava/util/function/BiFunction;)I"⟩ prog_43_method_11_code 3 (some .int) : Cond) ∈ mTs := mTs_in 1328 (by decide +kernel) (by decide +kernel)
theorem u98 : (Cond.initialized "jdk/internal/util/Preconditions" : Cond) ∈ mTs := mTs_in 98 (by decide +kernel) (by decide +kernel)
theorem co_J3_checkIndex_8e157 : mCode mJ3_checkIndex_8e157 := ⟨u1328, u98, by decide⟩
theorem u1326 : (Cond.methodLink "java/lang/String" 1059 ⟨"jdk/internal/util/Preconditions", "checkIndex", "(IILjava/util/function/BiFunction;)I"⟩ : Cond) ∈ mTs := mTs_in 1326 (by decide +kernel) (by decide +kernel)
theorem u1327 : (Cond.static ⟨"jdk/internal/util/Preconditions", "checkIndex", "(IILjava/util/function/BiFunction;)I"⟩ : Cond) ∈ mTs := mTs_in 1327 (by decide +kernel) (by decide +kernel)
theorem l_J0_1059 : mLinkS "java/lang/String" 1059 3 mJ3_checkIndex_8e157 := ⟨⟨by decide, by decide, by decide +kernel⟩, co_J3_checkIndex_8e157, u1326, u1327⟩
theorem u1102 : (Cond.fieldLink "java/lang/String" 1053 "jdk/internal/util/Preconditions" "SIOOBE_FORMATTER" "Ljava/util/function/BiFunction;" : Cond) ∈ mTs := mTs_in 1102 (by decide +kernel) (by decide +kernel)
theorem nI_0le {n : Nat} (h : n ≤ 70000) : (0 : Int32) ≤ nI n := (m_le (a := 0) (by decide) h).mpr (Nat.zero_le n)
theorem rE0 {G : mG} {s p m : Nat} {w : mH} (b1 : hk w s = (12, 0)) (b2 : hfr w s 0 = some p) (b3 : hk w p = (19, m)) (b5 : hfi w s 1 = 0) (hm : m ≤ 142) : mC G mJ5_ensureCapacityInternal_d00df 4 1 142 [.ref s, .int 0] w (mP none (fun w' => w' = w)) := by
  refine mC_of (by decide +kernel) rfl (Nat.le_of_ble_eq_true rfl) rfl ?_
  have c : (0 : Int32) - (nI m >>> ((hfi w s 1) &&& 31)) ≤ 0 := by
    rw [b5, sh_r, Int32.le_iff_toInt_le, i_sub (by rw [nI_toInt (by omega), i_0]; omega) (by rw [nI_toInt (by omega), i_0]; omega), nI_toInt (by omega), i_0]
    omega
  exact gJ5_ensureCapacityInternal_d00df_0 b1 b2 b3 (fun _ => mP_of rfl) (fun q => absurd c q)
theorem rS5 {G : mG} {s p m k : Nat} {w : mH} (b1 : hk w s = (12, 0)) (b2 : hfr w s 0 = some p) (b3 : hk w p = (19, m)) (b4 : m = 16 ∨ m = 34 ∨ m = 70 ∨ m = 142) (b5 : hfi w s 1 = 0) (b6 : hfi w s 3 = nI k) (hk142 : k ≤ 142) (b9 : ∀ i, i < m → bF (hai w p i)) (b11 : p < hN w) (b0 : s < hN w) (b12 : s ≠ p) : mC G mJ5_setLength_d00df 5 1 142 [.ref s, .int 0] w (mP none (fun w' => dS s p w w' [])) := by
  have fin : ∀ w3 : mH, hN w3 = hN w → hk w3 = hk w → (∀ q, q ≠ s → hfi w3 q = hfi w q) → hfl w3 = hfl w → hfr w3 = hfr w → hal w3 = hal w → har w3 = har w → hai w3 = hai w → hfi w3 s 1 = hfi w s 1 → hfi w3 s 3 = 0 → dS s p w w3 [] := by
    intro w3 g1 g2 g3 g4 g5 g6 g7 g8 g9 g10
    refine ⟨p, m, ⟨by rw [g1]; exact Nat.le_refl _, fun q hq => ⟨by rw [g2], fun hs => ⟨by rw [g3 q hs], by rw [g5]⟩, fun _ => by rw [g8], by rw [g4], by rw [g6], by rw [g7]⟩⟩, b0, b11, by rw [g2]; exact b1, by rw [g5]; exact b2, by rw [g2]; exact b3, b4, by rw [g9]; exact b5, g10, Nat.zero_le _, fun i hi => absurd hi (Nat.not_lt_zero i), by rw [g8]; exact b9, Or.inl rfl, by rw [g1]; exact b11, b12, fun i hi => absurd hi (Nat.not_lt_zero i)⟩
  refine mC_of (by decide +kernel) rfl (Nat.le_of_ble_eq_true rfl) rfl ?_
  refine gJ5_setLength_d00df_0 b1 (fun _ => ?_) (fun c => absurd (by decide) c)
  refine mC_mono (fun o w' ho => ?_) (rE0 b1 b2 b3 b5 (by omega))
  obtain ⟨ho, rfl⟩ := ho
  refine ⟨ho, ?_⟩
  refine gJ5_setLength_d00df_18 b1 (fun c1 c2 w1 e1 => ?_) (fun c1 c2 w2 e2 w3 e3 => ?_) (fun c1 => absurd (by rw [b6]; exact nI_0le (by omega)) c1)
  · subst e1
    exact mP_of (fin _ rfl rfl (fun q hq => up2_a _ _ _ hq) rfl rfl rfl rfl rfl (up2_k _ _ _ (by decide)) (up2_at _ _ _ _))
  · subst e2
    subst e3
    exact mP_of (fin _ rfl rfl (fun q hq => (up2_a _ _ _ hq).trans (up2_a _ _ _ hq)) rfl rfl rfl rfl rfl ((up2_k _ _ _ (by decide)).trans (up2_k _ _ _ (by decide))) (up2_at _ _ _ _))
theorem rS4 {G : mG} {s p m k : Nat} {w : mH} (b1 : hk w s = (12, 0)) (b2 : hfr w s 0 = some p) (b3 : hk w p = (19, m)) (b4 : m = 16 ∨ m = 34 ∨ m = 70 ∨ m = 142) (b5 : hfi w s 1 = 0) (b6 : hfi w s 3 = nI k) (hk142 : k ≤ 142) (b9 : ∀ i, i < m → bF (hai w p i)) (b11 : p < hN w) (b0 : s < hN w) (b12 : s ≠ p) : mC G mJ4_setLength_d00df 6 1 142 [.ref s, .int 0] w (mP none (fun w' => dS s p w w' [])) := by
  refine mC_of (by decide +kernel) rfl (Nat.le_of_ble_eq_true rfl) rfl ?_
  refine gJ4_setLength_d00df_0 b1 ?_
  exact mC_mono (fun o w' ho => ⟨ho.1, gJ4_setLength_d00df_5 (mP_of ho.2)⟩) (rS5 b1 b2 b3 b4 b5 b6 hk142 b9 b11 b0 b12)
theorem rCI {G : mG} {w : mH} {x0 x1 : Int32} {v : Option Nat} (h0 : ¬ x0 < 0) (h1 : x0 < x1) : mC G mJ3_checkIndex_8e157 1 0 0 [.int x0, .int x1, va_rf v] w (mEq (.inl (some (.int x0))) w) := by
  cases v with
  | none =>
    refine mC_of (by decide +kernel) rfl (Nat.le_of_ble_eq_true rfl) rfl ?_
    exact gJ3_checkIndex_8e157_0 (v2 := none) (fun c => absurd c h0) (fun _ _ => ⟨rfl, rfl⟩) (fun _ c => absurd h1 c)
  | some a =>
    refine mC_of (by decide +kernel) rfl (Nat.le_of_ble_eq_true rfl) rfl ?_
    exact gJ3_checkIndex_8e157_0 (v2 := some a) (fun c => absurd c h0) (fun _ _ => ⟨rfl, rfl⟩) (fun _ c => absurd h1 c)
theorem rC0 {G : mG} {w : mH} {x0 x1 : Int32} (h0 : ¬ x0 < 0) (h1 : x0 < x1) : mC G mJ0_checkIndex_df160 2 0 0 [.int x0, .int x1] w (mEq (.inl none) w) := by
  refine mC_of (by decide +kernel) rfl (Nat.le_of_ble_eq_true rfl) rfl ?_
  refine mW_iload_n (j := 0) dJ0_checkIndex_df160_0 rfl rfl ?_
  refine mW_iload_n (j := 1) dJ0_checkIndex_df160_1 rfl rfl ?_
  refine mW_getsF dJ0_checkIndex_df160_2 u1102 (fun v => ?_)
  refine mW_callS (As := [.int x0, .int x1, va_rf v]) (rest := []) (kc2 := 0) (ks2 := 0) dJ0_checkIndex_df160_5 l_J0_1059 rfl (mC_i (rCI h0 h1) ?_) (Nat.le_of_ble_eq_true rfl) (by decide) rfl rfl mRix mRik
  refine mW_pop dJ0_checkIndex_df160_8 rfl ?_
  exact mW_vret dJ0_checkIndex_df160_9 rfl ⟨rfl, rfl⟩
theorem tby : ∀ k, k < 128 → ((nI k &&& 255).toUInt32 % 65536).toInt32 = nI k ∧ narrow .char (.int (nI k)) = .int (nI k) := by decide +kernel
theorem rC5 {G : mG} {s p0 i : Nat} {w0 w : mH} {L : List Int32} (h : dS s p0 w0 w L) (hi : i < L.length) : mC G mJ5_charAt_5068e 4 0 0 [.ref s, .int (nI i)] w (mEq (.inl (some (.int (L.getD i 0)))) w) := by
  obtain ⟨p, m, hF, s0, s1, b1, b2, b3, b4, b5, b6, b7, b8, b9, b10, b11, b12, b13⟩ := h
  obtain ⟨y1, y2⟩ := b13 i hi
  obtain ⟨z1, z2⟩ := tby _ y2
  rw [← y1] at z1 z2
  refine mC_of (by decide +kernel) rfl (Nat.le_of_ble_eq_true rfl) rfl ?_
  refine gJ5_charAt_5068e_0 b1 b2 b3 ?_
  have em : iMin (hfi w s 3) (nI m >>> ((hfi w s 1) &&& 31)) = nI L.length := by
    rw [b5, sh_r, b6]
    unfold iMin
    rw [if_neg (by rw [m_lt (by omega) (by omega)]; omega)]
  rw [em]
  refine mC_mono (fun o w' ho => ?_) (rC0 (m_0le (by omega)) ((m_lt (by omega) (by omega)).mpr hi))
  obtain ⟨ho, rfl⟩ := ho
  refine ⟨ho, ?_⟩
  refine mW_loc [3, 4, 2, 1, 0] (lv2 := [(0, .ref s), (1, .int (nI i)), (2, _), (3, .ref p), (4, _)]) rfl ?_
  have ci : (nI i).toNatClampNeg = i := m_cl (by omega)
  refine gJ5_charAt_5068e_29 b3 (fun _ => m_vp (by omega) (by omega)) (fun _ => ?_) (fun c => absurd b5 c) (fun _ => ?_)
  · rw [ci, b8 i hi, z1]; exact z2
  · rw [ci, b8 i hi, z1]; exact ⟨rfl, rfl⟩
theorem rC4 {G : mG} {s p0 i : Nat} {w0 w : mH} {L : List Int32} (h : dS s p0 w0 w L) (hi : i < L.length) : mC G mJ4_charAt_5068e 5 0 0 [.ref s, .int (nI i)] w (mEq (.inl (some (.int (L.getD i 0)))) w) := by
  obtain ⟨p, m, hX⟩ := id h
  obtain ⟨y1, y2⟩ := hX.2.2.2.2.2.2.2.2.2.2.2.2.2.2.2 i hi
  refine mC_of (by decide +kernel) rfl (Nat.le_of_ble_eq_true rfl) rfl ?_
  refine gJ4_charAt_5068e_0 hX.2.2.2.1 (mC_i (rC5 h hi) ?_)
  refine gJ4_charAt_5068e_5 ?_ ⟨rfl, rfl⟩
  rw [y1]
  exact (tby _ y2).2
theorem dIn {x : Int32} {n : Nat} (h : n ≤ 200) : (x = -1 → ¬ vX11_in x.toInt64 (-1) (nI n - 1).toInt64 = 0) ∧ (¬ x = -1 → (vX11_in x.toInt64 (-1) (nI n - 1).toInt64 = 0 ↔ vX10_isWithin x 0 (nI n - 1) = 0)) := by
  rw [in_eq (a := -1) (b := nI n - 1) (A := -1) rfl rfl, iw_0, iw_0]
  have e : ((-1 : Int32)).toInt = -1 := rfl
  refine ⟨fun hx => fun q => q ⟨by rw [hx]; exact Int32.le_refl _, ?_⟩, fun hx => ?_⟩
  · rw [hx, Int32.le_iff_toInt_le, i_sub (by rw [nI_toInt (by omega), show (1 : Int32).toInt = 1 from rfl]; omega) (by rw [nI_toInt (by omega), show (1 : Int32).toInt = 1 from rfl]; omega), nI_toInt (by omega), e, show (1 : Int32).toInt = 1 from rfl]
    omega
  · have : (-1 : Int32) ≤ x ↔ 0 ≤ x := by
      rw [Int32.le_iff_toInt_le, Int32.le_iff_toInt_le, e, i_0]
      have hn : ¬ x.toInt = -1 := fun q => hx (Int32.toInt_inj.mp (q.trans e.symm))
      omega
    rw [this]
theorem tX10_describe {G : mG} {a p n m m0 k : Nat} {w : mH} {A : Nat → Int32} {x1 : Int32} (z : zBen w a) (S : kS (a + 11) (a + 148) p w) (kf : kF (a + 11) w A n m) (nb : kN A n m) (ha : a + 194 ≤ hN w) (b2 : hfr w (a + 148) 0 = some p) (b3 : hk w p = (19, m0)) (b4 : m0 = 16 ∨ m0 = 34 ∨ m0 = 70 ∨ m0 = 142) (b5 : hfi w (a + 148) 1 = 0) (b6 : hfi w (a + 148) 3 = nI k) (hk142 : k ≤ 142) (b9 : ∀ i, i < m0 → bF (hai w p i)) (b11 : p < hN w) (b12 : a + 148 ≠ p) : mC G mX10_describe 9 84 11792 [.ref a, .int x1] w (tpO "java/lang/IndexOutOfBoundsException" "" "" (tDes (tPu A n m) x1) (.int (vDes (tPu A n m) x1)) (fun u => dS (a + 148) p w u (tPu A n m)) (fun u => dS (a + 148) p w u (tPu A n m))) := by
  have hl := tPu_l nb m (Nat.le_refl m)
  have hn8 := kf.2.1
  have hm4 := kf.2.2.1
  have zs : ∀ (w1 : mH) (L1 : List Int32), dS (a + 148) p w w1 L1 → hk w1 a = (10, 0) ∧ hfr w1 a 0 = some (a + 1) ∧ hk w1 (a + 1) = (3, 0) ∧ hfr w1 (a + 1) 4 = some (a + 11) ∧ hfr w1 a 5 = some (a + 148) ∧ hk w1 (a + 11) = (7, 0) ∧ hk w1 (a + 148) = (12, 0) := by
    intro w1 L1 h1
    obtain ⟨p', m', hX⟩ := h1
    have hF := hX.1
    unfold zBen zSet zTrk at z
    obtain ⟨z1, z2, -, -, -, -, -, -, -, -, -, ⟨zs1, -, -, -, -, zs2, -, -, -, -, zk, -⟩, -, -, -, -, -, -, -, -, -, z3, z4⟩ := z
    refine ⟨?_, ?_, ?_, ?_, ?_, ?_, ?_⟩
    · rw [(hF.2 a (by omega)).1]; exact z1
    · rw [((hF.2 a (by omega)).2.1 (by omega)).2]; exact z2
    · rw [(hF.2 (a + 1) (by omega)).1]; exact zs1
    · rw [((hF.2 (a + 1) (by omega)).2.1 (by omega)).2]; exact zs2
    · rw [((hF.2 a (by omega)).2.1 (by omega)).2]; exact z3
    · rw [(hF.2 (a + 11) (by omega)).1]; exact zk
    · rw [(hF.2 (a + 148) (by omega)).1]; exact z4
  refine mC_of (by decide +kernel) rfl (Nat.le_of_ble_eq_true rfl) rfl ?_
  have zz := z
  unfold zBen at zz
  have g1 := zz.1
  have g5 := zz.2.2.2.2.2.2.2.2.2.2.2.2.2.2.2.2.2.2.2.2.2.1
  have g7 := zz.2.2.2.2.2.2.2.2.2.2.2.2.2.2.2.2.2.2.2.2.2.2
  refine gX10_describe_0 g1 g5 g7 ?_
  refine mC_mono (fun o w1 ho => ⟨ho.1, ?_⟩) (rS4 g7 b2 b3 b4 b5 b6 hk142 b9 b11 (by omega) b12)
  obtain ⟨g1, g2, g3, g4, g5, g6, g7⟩ := zs w1 _ ho.2
  refine gX10_describe_8 g1 g2 g3 g4 g5 g6 ?_
  refine mC_mono (fun o w2 ho => ⟨ho.1, ?_⟩) (rWr S kf nb ho.2)
  have h2 := ho.2
  obtain ⟨g1, g2, g3, g4, g5, g6, g7⟩ := zs w2 _ h2
  obtain ⟨p2, m2, hX⟩ := id h2
  have b6 : hfi w2 (a + 148) 3 = nI (tPu A n m).length := hX.2.2.2.2.2.2.2.2.1
  obtain ⟨dI1, dI2⟩ := dIn (x := x1) (n := (tPu A n m).length) (by omega)
  refine gX10_describe_22 g1 g5 g7 (fun c1 c2 => ?_) (fun c1 c2 => ?_) (fun c1 => ?_)
  · rw [b6] at c2
    have hne := iw_n c2
    have t0 : tDes (tPu A n m) x1 = 0 := by unfold tDes; rw [if_neg (fun q => c2 ((dI2 c1).mp q))]
    have hp : 1 ≤ (tPu A n m).length := by
      rcases Nat.eq_zero_or_pos (tPu A n m).length with q | q
      · rw [q] at hne; exact absurd (Int32.le_trans hne.1 hne.2) (by decide)
      · exact q
    obtain ⟨i, hi, hx⟩ := iw_2 hp (by omega) rfl c2
    have ci : (nI i).toNatClampNeg = i := m_cl (by omega)
    subst hx
    refine mC_i (rC4 h2 hi) (gX10_describe_70 ⟨fun _ => ⟨?_, h2⟩, fun q => absurd t0 q⟩)
    unfold vDes
    rw [if_pos t0, if_pos (nI_0le (by omega)), ci]
  · rw [b6] at c2
    exact tp_1 (by unfold tDes; rw [if_pos ((dI2 c1).mpr c2)]) h2
  · have t0 : tDes (tPu A n m) x1 = 0 := by unfold tDes; rw [if_neg (dI1 c1)]
    refine ⟨fun _ => ⟨?_, h2⟩, fun q => absurd t0 q⟩
    unfold vDes
    rw [if_pos t0, if_neg (by rw [c1]; decide), b6]
