section CUE
variable {G : mG} {M M' : mM} {d d' kc ks kc' ks' kc2 ks2 pc : Nat} {lv : List (Nat × Value)} {st rest As : List Value} {w w2 : mH} {Φ Ψ : mF}
theorem mW_callUe {idx n : Nat} {b : Nat} {C : String} {v : Option Value} (hd : decode M.2.1 pc = .ok (.invokevirtual idx, 3)) (hF : mLinkU M.1.cls idx n M' C) (hn : As.length = n) {ci : Nat} {T : u_T} {N : Nat} (hkd : hk w b = (ci, 0)) (hc : mCl[ci]? = some (C, T, N)) (h16 : ci < 16) (hC : mC G M' d' kc' ks' (.ref b :: As) w (mEq (.inl v) w2)) (hr : (rest.map fun v => v.category).sum ≤ 8) (hdd : d' + 1 ≤ d) (hk1 : kc' + kc2 = kc) (hk2 : ks' + ks2 = ks) (kk : mW G M d kc2 ks2 (pc + 3) lv (v.toList ++ rest) w2 Φ) : mW G M d kc ks pc lv (As.reverse ++ .ref b :: rest) w Φ := mW_callU hd hF hn hkd hc h16 hC hr hdd hk1 hk2 (fun E w' h => by obtain ⟨h, -⟩ := h; cases h) (fun v' w' h => by obtain ⟨h, rfl⟩ := h; cases h; exact kk)
theorem mW_callSUe {idx n : Nat} {b : Nat} {C : String} {v : Option Value} (hd : decode M.2.1 pc = .ok (.invokespecial idx, 3)) (hF : mLinkSU M.1.cls idx n M') (hn : As.length = n) {ci : Nat} {T : u_T} {N : Nat} (hkd : hk w b = (ci, 0)) (hc : mCl[ci]? = some (C, T, N)) (h16 : ci < 16) (hC : mC G M' d' kc' ks' (.ref b :: As) w (mEq (.inl v) w2)) (hr : (rest.map fun v => v.category).sum ≤ 8) (hdd : d' + 1 ≤ d) (hk1 : kc' + kc2 = kc) (hk2 : ks' + ks2 = ks) (kk : mW G M d kc2 ks2 (pc + 3) lv (v.toList ++ rest) w2 Φ) : mW G M d kc ks pc lv (As.reverse ++ .ref b :: rest) w Φ := mW_callSU hd hF hn hkd hc h16 hC hr hdd hk1 hk2 (fun E w' h => by obtain ⟨h, -⟩ := h; cases h) (fun v' w' h => by obtain ⟨h, rfl⟩ := h; cases h; exact kk)
end CUE
abbrev mJ5_isLatin1_aae02 : mM := (yJ5_isLatin1_aae02, cJ5_isLatin1_aae02, 1, (some .boolean), [])
theorem u288 : (Cond.fieldLink "java/lang/AbstractStringBuilder" 18 "java/lang/String" "COMPACT_STRINGS" "Z" : Cond) ∈ mTs := mTs_in 288 (by decide +kernel) (by decide +kernel)
def vJ5_isLatin1_aae02 (w : mH) (a0 : Nat) : Int32 := (if (hfi w a0 1) = 0 then 1 else 0)
set_option maxHeartbeats 4000000 in
set_option maxRecDepth 100000 in
theorem qJ5_isLatin1_aae02 {G : mG} {w : mH} {a0 : Nat} (h1 : hk w a0 = (12, 0)) : mC G mJ5_isLatin1_aae02 2 0 0 [.ref a0] w (mEq (.inl (some (.int (vJ5_isLatin1_aae02 w a0)))) w) := by
  refine mC_of (by decide +kernel) rfl (Nat.le_of_ble_eq_true rfl) rfl ?_
  refine mW_getsZ dJ5_isLatin1_aae02_0 u288 ?_
  refine mW_if_eq (tgt := 17) dJ5_isLatin1_aae02_3 (by decide) (fun c => absurd c (by decide)) (fun _ => ?_)
  refine mW_aload_n (j := 0) dJ5_isLatin1_aae02_6 rfl rfl ?_
  refine mW_get dJ5_isLatin1_aae02_7 f_J5_22 h1 rfl ?_
  refine mW_if_ne (tgt := 17) dJ5_isLatin1_aae02_10 (by decide) (fun c1 => ?_) (fun c1 => ?_)
  · refine mW_iconst (v := 0) dJ5_isLatin1_aae02_17 (by decide) ?_
    exact mW_zret (ty := .boolean) dJ5_isLatin1_aae02_18 rfl (by first | rfl | decide) (⟨by first | with_reducible rfl | (simp only [vJ5_isLatin1_aae02, if_neg c1]; done) | rfl, by first | with_reducible rfl | (simp only [vJ5_isLatin1_aae02, if_neg c1]; done) | rfl⟩)
  · refine mW_iconst (v := 1) dJ5_isLatin1_aae02_13 (by decide) ?_
    refine mW_goto (tgt := 18) dJ5_isLatin1_aae02_14 (by decide) ?_
    exact mW_zret (ty := .boolean) dJ5_isLatin1_aae02_18 rfl (by first | rfl | decide) (⟨by first | with_reducible rfl | (simp only [vJ5_isLatin1_aae02, if_pos c1]; done) | rfl, by first | with_reducible rfl | (simp only [vJ5_isLatin1_aae02, if_pos c1]; done) | rfl⟩)
abbrev mJ1_canEncode_fc78d : mM := (yJ1_canEncode_fc78d, cJ1_canEncode_fc78d, 1, (some .boolean), [])
def vJ1_canEncode_fc78d (x0 : Int32) : Int32 := (if 255 < x0 then 0 else 1)
set_option maxHeartbeats 4000000 in
set_option maxRecDepth 100000 in
theorem qJ1_canEncode_fc78d {G : mG} {w : mH} {x0 : Int32}  : mC G mJ1_canEncode_fc78d 2 0 0 [.int x0] w (mEq (.inl (some (.int (vJ1_canEncode_fc78d x0)))) w) := by
  refine mC_of (by decide +kernel) rfl (Nat.le_of_ble_eq_true rfl) rfl ?_
  refine mW_iload_n (j := 0) dJ1_canEncode_fc78d_0 rfl rfl ?_
  refine mW_sipush (v := 255) dJ1_canEncode_fc78d_1 (by decide) ?_
  refine mW_icmp_gt (tgt := 11) dJ1_canEncode_fc78d_4 (by decide) (fun c1 => ?_) (fun c1 => ?_)
  · refine mW_iconst (v := 0) dJ1_canEncode_fc78d_11 (by decide) ?_
    exact mW_zret (ty := .boolean) dJ1_canEncode_fc78d_12 rfl (by first | rfl | decide) (⟨by first | with_reducible rfl | (simp only [vJ1_canEncode_fc78d, if_pos c1]; done) | rfl, by first | with_reducible rfl | (simp only [vJ1_canEncode_fc78d, if_pos c1]; done) | rfl⟩)
  · refine mW_iconst (v := 1) dJ1_canEncode_fc78d_7 (by decide) ?_
    refine mW_goto (tgt := 12) dJ1_canEncode_fc78d_8 (by decide) ?_
    exact mW_zret (ty := .boolean) dJ1_canEncode_fc78d_12 rfl (by first | rfl | decide) (⟨by first | with_reducible rfl | (simp only [vJ1_canEncode_fc78d, if_neg c1]; done) | rfl, by first | with_reducible rfl | (simp only [vJ1_canEncode_fc78d, if_neg c1]; done) | rfl⟩)
abbrev mJ5_append_3fe6f : mM := (yJ5_append_3fe6f, cJ5_append_3fe6f, 2, (some (.object "java/lang/AbstractStringBuilder")), [])
theorem u301 : (Cond.fieldLink "java/lang/AbstractStringBuilder" 79 "java/lang/AbstractStringBuilder" "count" "I" : Cond) ∈ mTs := mTs_in 301 (by decide +kernel) (by decide +kernel)
theorem f_J5_79 : mFld "java/lang/AbstractStringBuilder" 79 12 3 := ⟨RJ4, TJ4, 4, "java/lang/AbstractStringBuilder", rfl, by decide, in_J4, u301, Or.inl rfl, by decide⟩
theorem u1061 : (Cond.code ⟨"java/lang/AbstractStringBuilder", "ensureCapacityInternal", "(I)V"⟩ prog_15_method_9_code 3 (none : Option ClassFile.FieldType) : Cond) ∈ mTs := mTs_in 1061 (by decide +kernel) (by decide +kernel)
theorem co_J5_ensureCapacityInternal_d00df : mCode mJ5_ensureCapacityInternal_d00df := ⟨u1061, u77, by decide⟩
theorem u1058 : (Cond.methodLink "java/lang/AbstractStringBuilder" 100 ⟨"java/lang/AbstractStringBuilder", "ensureCapacityInternal", "(I)V"⟩ : Cond) ∈ mTs := mTs_in 1058 (by decide +kernel) (by decide +kernel)
theorem v1059 : (Cond.privateMethod ⟨"java/lang/AbstractStringBuilder", "ensureCapacityInternal", "(I)V"⟩ : Cond) ∈ lw_tbl := List.mem_of_getElem? (i := 1059) (by decide +kernel)
theorem u1060 : (Cond.instanceMethod ⟨"java/lang/AbstractStringBuilder", "ensureCapacityInternal", "(I)V"⟩ : Cond) ∈ mTs := mTs_in 1060 (by decide +kernel) (by decide +kernel)
theorem u1991 : (Cond.sameMethod "java/lang/AbstractStringBuilder" "java/lang/AbstractStringBuilder" "ensureCapacityInternal" "(I)V" : Cond) ∈ mTs := mTs_in 1991 (by decide +kernel) (by decide +kernel)
theorem l_J5_100 : mLinkU "java/lang/AbstractStringBuilder" 100 1 mJ5_ensureCapacityInternal_d00df "java/lang/StringBuilder" := ⟨⟨by decide, by decide, by decide +kernel⟩, co_J5_ensureCapacityInternal_d00df, u1058, u1060, u1991, Or.inr ⟨v1059, ⟨"java/lang/AbstractStringBuilder", "isLatin1", "()Z"⟩, rfl, u1088⟩⟩
set_option maxHeartbeats 4000000 in
set_option maxRecDepth 100000 in
theorem gJ5_append_3fe6f_0 {G : mG} {w : mH} {Φ : mF} {a0 : Nat} {x1 : Int32} (h1 : hk w a0 = (12, 0)) (k1 : mC G mJ5_ensureCapacityInternal_d00df 4 1 142 [.ref a0, .int ((hfi w a0 3) + 1)] w (mRv G mJ5_append_3fe6f 5 0 0 10 [(0, .ref a0), (1, .int x1)] [] Φ)) : mW G mJ5_append_3fe6f 5 1 142 0 [(0, .ref a0), (1, .int x1)] [] w Φ := by
  refine mW_aload_n (j := 0) dJ5_append_3fe6f_0 rfl rfl ?_
  refine mW_aload_n (j := 0) dJ5_append_3fe6f_1 rfl rfl ?_
  refine mW_get dJ5_append_3fe6f_2 f_J5_79 h1 rfl ?_
  refine mW_iconst (v := 1) dJ5_append_3fe6f_5 (by decide) ?_
  refine mW_iadd dJ5_append_3fe6f_6 ?_
  refine mW_callU (As := [.int ((hfi w a0 3) + 1)]) (rest := []) (kc2 := 0) (ks2 := 0) dJ5_append_3fe6f_7 l_J5_100 rfl h1 rfl (by decide) (k1) (Nat.le_of_ble_eq_true rfl) (by decide) rfl rfl mRvx mRvk
theorem u1089 : (Cond.code ⟨"java/lang/AbstractStringBuilder", "isLatin1", "()Z"⟩ prog_15_method_68_code 1 (some .boolean) : Cond) ∈ mTs := mTs_in 1089 (by decide +kernel) (by decide +kernel)
theorem co_J5_isLatin1_aae02 : mCode mJ5_isLatin1_aae02 := ⟨u1089, u77, by decide⟩
theorem u1085 : (Cond.methodLink "java/lang/AbstractStringBuilder" 83 ⟨"java/lang/AbstractStringBuilder", "isLatin1", "()Z"⟩ : Cond) ∈ mTs := mTs_in 1085 (by decide +kernel) (by decide +kernel)
theorem u1086 : (Cond.instanceMethod ⟨"java/lang/AbstractStringBuilder", "isLatin1", "()Z"⟩ : Cond) ∈ mTs := mTs_in 1086 (by decide +kernel) (by decide +kernel)
theorem u1087 : (Cond.sameMethod "java/lang/AbstractStringBuilder" "java/lang/AbstractStringBuilder" "isLatin1" "()Z" : Cond) ∈ mTs := mTs_in 1087 (by decide +kernel) (by decide +kernel)
theorem l_J5_83 : mLinkU "java/lang/AbstractStringBuilder" 83 0 mJ5_isLatin1_aae02 "java/lang/StringBuilder" := ⟨⟨by decide, by decide, by decide +kernel⟩, co_J5_isLatin1_aae02, u1085, u1086, u1087, Or.inl u1088⟩
theorem u1316 : (Cond.code ⟨"java/lang/StringLatin1", "canEncode", "(C)Z"⟩ prog_34_method_3_code 1 (some .boolean) : Cond) ∈ mTs := mTs_in 1316 (by decide +kernel) (by decide +kernel)
theorem u99 : (Cond.initialized "java/lang/StringLatin1" : Cond) ∈ mTs := mTs_in 99 (by decide +kernel) (by decide +kernel)
theorem co_J1_canEncode_fc78d : mCode mJ1_canEncode_fc78d := ⟨u1316, u99, by decide⟩
theorem u1314 : (Cond.methodLink "java/lang/AbstractStringBuilder" 191 ⟨"java/lang/StringLatin1", "canEncode", "(C)Z"⟩ : Cond) ∈ mTs := mTs_in 1314 (by decide +kernel) (by decide +kernel)
theorem u1315 : (Cond.static ⟨"java/lang/StringLatin1", "canEncode", "(C)Z"⟩ : Cond) ∈ mTs := mTs_in 1315 (by decide +kernel) (by decide +kernel)
theorem l_J5_191 : mLinkS "java/lang/AbstractStringBuilder" 191 1 mJ1_canEncode_fc78d := ⟨⟨by decide, by decide, by decide +kernel⟩, co_J1_canEncode_fc78d, u1314, u1315⟩
theorem p_J5_79 : mPut "java/lang/AbstractStringBuilder" 79 12 3 (.int) false := ⟨RJ4, TJ4, 4, "java/lang/AbstractStringBuilder", tyJ4, rfl, by decide, in_J4, u301, Or.inl rfl, by decide, tyJ4_ok, nmJ4, by decide +kernel, rfl, fun h => by cases h⟩
theorem ob_12_3 (w : mH) (a : Nat) (v : Int32) : mOb (sfi w a 3 v) a 12 = (mOb w a 12).set 3 (.int v) := by simp [mOb, hfi_sfi, hfl_sfi, hfr_sfi, up2]
set_option maxHeartbeats 4000000 in
set_option maxRecDepth 100000 in
theorem gJ5_append_3fe6f_10 {G : mG} {w : mH} {Φ : mF} {a0 : Nat} {x1 : Int32} {a0_0 n_a0_0 : Nat} (h1 : hk w a0 = (12, 0)) (h2 : hfr w a0 0 = some a0_0) (h3 : hk w a0_0 = (19, n_a0_0)) (s1 : (¬ ((vJ5_isLatin1_aae02 w a0) = 0)) → (¬ ((vJ1_canEncode_fc78d x1) = 0)) → ∀ w1 : mH, (w1 = sfi w a0 3 ((hfi w a0 3) + 1)) → vp_in (hfi w a0 3) n_a0_0) (k1 : ((vJ5_isLatin1_aae02 w a0) = 0) → mW G mJ5_append_3fe6f 5 0 0 45 [(0, .ref a0), (1, .int x1)] [] w Φ) (k2 : (¬ ((vJ5_isLatin1_aae02 w a0) = 0)) → ((vJ1_canEncode_fc78d x1) = 0) → mW G mJ5_append_3fe6f 5 0 0 45 [(0, .ref a0), (1, .int x1)] [] w Φ) (k3 : (¬ ((vJ5_isLatin1_aae02 w a0) = 0)) → (¬ ((vJ1_canEncode_fc78d x1) = 0)) → ∀ w1 : mH, (w1 = sfi w a0 3 ((hfi w a0 3) + 1)) → ∀ w2 : mH, (w2 = sai w1 a0_0 ((hfi w a0 3).toNatClampNeg) (vp_nar .byte x1.toInt8.toInt32)) → Φ (.inl (some (.ref a0))) w2) : mW G mJ5_append_3fe6f 5 0 0 10 [(0, .ref a0), (1, .int x1)] [] w Φ := by
  refine mW_aload_n (j := 0) dJ5_append_3fe6f_10 rfl rfl ?_
  refine mW_callUe (As := []) (rest := []) (kc2 := 0) (ks2 := 0) dJ5_append_3fe6f_11 l_J5_83 rfl h1 rfl (by decide) (qJ5_isLatin1_aae02 (w := w) (a0 := a0) h1) (Nat.le_of_ble_eq_true rfl) (by decide) rfl rfl ?_
  refine mW_if_eq (tgt := 45) dJ5_append_3fe6f_14 (by decide) (fun c1 => ?_) (fun c1 => ?_)
  · exact k1 c1
  · refine mW_iload_n (j := 1) dJ5_append_3fe6f_17 rfl rfl ?_
    refine mW_callSe (As := [.int x1]) (rest := []) (kc2 := 0) (ks2 := 0) dJ5_append_3fe6f_18 l_J5_191 rfl (qJ1_canEncode_fc78d (w := w) (x0 := x1)) (Nat.le_of_ble_eq_true rfl) (by decide) rfl rfl ?_
    refine mW_if_eq (tgt := 45) dJ5_append_3fe6f_21 (by decide) (fun c2 => ?_) (fun c2 => ?_)
    · exact k2 c1 c2
    · refine mW_aload_n (j := 0) dJ5_append_3fe6f_24 rfl rfl ?_
      refine mW_getR dJ5_append_3fe6f_25 f_J5_15 h1 rfl h2 ?_
      refine mW_aload_n (j := 0) dJ5_append_3fe6f_28 rfl rfl ?_
      refine mW_dup dJ5_append_3fe6f_29 rfl ?_
      refine mW_get dJ5_append_3fe6f_30 f_J5_79 h1 rfl ?_
      refine mW_dup_x1 dJ5_append_3fe6f_33 rfl rfl ?_
      refine mW_iconst (v := 1) dJ5_append_3fe6f_34 (by decide) ?_
      refine mW_iadd dJ5_append_3fe6f_35 ?_
      refine mW_put (ty := .int) (w2 := sfi w a0 3 ((hfi w a0 3) + 1)) dJ5_append_3fe6f_36 p_J5_79 h1 (Nat.le_of_ble_eq_true rfl) (by first | rfl | decide | (repeat' split) <;> rfl) rfl (hN_sfi _ _ _ _) (hk_sfi _ _ _ _) (mE_sfi h1 (by decide) (ob_12_3 _ _ _)) ?_
      refine mW_nm (fun w1 e1 => ?_)
      refine mW_iload_n (j := 1) dJ5_append_3fe6f_39 rfl rfl ?_
      refine mW_i2b dJ5_append_3fe6f_40 rfl ?_
      refine mW_bastJ dJ5_append_3fe6f_41 (s2k (S2_sfi e1) h3) (s1 c1 c2 w1 e1) rfl ?_
      refine mW_nm (fun w2 e2 => ?_)
      refine mW_goto (tgt := 75) dJ5_append_3fe6f_42 (by decide) ?_
      refine mW_aload_n (j := 0) dJ5_append_3fe6f_75 rfl rfl ?_
      exact mW_aret (v := .ref a0) dJ5_append_3fe6f_76 rfl (by first | exact Or.inl ⟨_, rfl⟩ | exact Or.inr ⟨_, rfl⟩) (by first | exact Or.inl rfl | exact Or.inr ⟨_, rfl⟩) (k3 c1 c2 w1 e1 w2 e2)
abbrev mJ5_append_c97b9 : mM := (yJ5_append_c97b9, cJ5_append_c97b9, 4, (some (.object "java/lang/AbstractStringBuilder")), [])
theorem u1168 : (Cond.code ⟨"java/lang/Integer", "stringSize", "(I)I"⟩ prog_27_method_13_code 4 (some .int) : Cond) ∈ mTs := mTs_in 1168 (by decide +kernel) (by decide +kernel)
theorem u101 : (Cond.initialized "java/lang/Integer" : Cond) ∈ mTs := mTs_in 101 (by decide +kernel) (by decide +kernel)
abbrev mJ6_stringSize_0f7a4 : mM := (yJ6_stringSize_0f7a4, cJ6_stringSize_0f7a4, 4, (some .int), [])
theorem co_J6_stringSize_0f7a4 : mCode mJ6_stringSize_0f7a4 := ⟨u1168, u101, by decide⟩
theorem u1166 : (Cond.methodLink "java/lang/AbstractStringBuilder" 245 ⟨"java/lang/Integer", "stringSize", "(I)I"⟩ : Cond) ∈ mTs := mTs_in 1166 (by decide +kernel) (by decide +kernel)
theorem u1167 : (Cond.static ⟨"java/lang/Integer", "stringSize", "(I)I"⟩ : Cond) ∈ mTs := mTs_in 1167 (by decide +kernel) (by decide +kernel)
theorem l_J5_245 : mLinkS "java/lang/AbstractStringBuilder" 245 1 mJ6_stringSize_0f7a4 := ⟨⟨by decide, by decide, by decide +kernel⟩, co_J6_stringSize_0f7a4, u1166, u1167⟩
set_option maxHeartbeats 4000000 in
set_option maxRecDepth 100000 in
theorem gJ5_append_c97b9_0 {G : mG} {w : mH} {Φ : mF} {a0 : Nat} {x1 : Int32} (h1 : hk w a0 = (12, 0)) (k1 : mC G mJ6_stringSize_0f7a4 2 0 0 [.int x1] w (mRi G mJ5_append_c97b9 5 1 142 10 [(2, .int (hfi w a0 3)), (0, .ref a0), (1, .int x1)] [.int (hfi w a0 3)] Φ)) : mW G mJ5_append_c97b9 5 1 142 0 [(0, .ref a0), (1, .int x1)] [] w Φ := by
  refine mW_aload_n (j := 0) dJ5_append_c97b9_0 rfl rfl ?_
  refine mW_get dJ5_append_c97b9_1 f_J5_79 h1 rfl ?_
  refine mW_istore_n (lv2 := [(2, .int (hfi w a0 3)), (0, .ref a0), (1, .int x1)]) dJ5_append_c97b9_4 rfl (by decide) rfl ?_
  refine mW_iload_n (j := 0) dJ5_append_c97b9_5 rfl rfl ?_
  refine mW_iload_n (j := 2) dJ5_append_c97b9_6 rfl rfl ?_
  refine mW_callS (As := [.int x1]) (rest := [.int (hfi w a0 3)]) (kc2 := 1) (ks2 := 142) dJ5_append_c97b9_7 l_J5_245 rfl (k1) (Nat.le_of_ble_eq_true rfl) (by decide) rfl rfl mRix mRik
set_option maxHeartbeats 4000000 in
set_option maxRecDepth 100000 in
theorem gJ5_append_c97b9_10 {G : mG} {w : mH} {Φ : mF} {a0 : Nat} {x1 x2 x_0 x_1 : Int32} (h1 : hk w a0 = (12, 0)) (k1 : mC G mJ5_ensureCapacityInternal_d00df 4 1 142 [.ref a0, .int (x_1 + x_0)] w (mRv G mJ5_append_c97b9 5 0 0 17 [(3, .int (x_1 + x_0)), (0, .ref a0), (1, .int x1), (2, .int x2)] [] Φ)) : mW G mJ5_append_c97b9 5 1 142 10 [(0, .ref a0), (1, .int x1), (2, .int x2)] [.int x_0, .int x_1] w Φ := by
  refine mW_iadd dJ5_append_c97b9_10 ?_
  refine mW_istore_n (lv2 := [(3, .int (x_1 + x_0)), (0, .ref a0), (1, .int x1), (2, .int x2)]) dJ5_append_c97b9_11 rfl (by decide) rfl ?_
  refine mW_aload_n (j := 1) dJ5_append_c97b9_12 rfl rfl ?_
  refine mW_iload_n (j := 0) dJ5_append_c97b9_13 rfl rfl ?_
  refine mW_callU (As := [.int (x_1 + x_0)]) (rest := []) (kc2 := 0) (ks2 := 0) dJ5_append_c97b9_14 l_J5_100 rfl h1 rfl (by decide) (k1) (Nat.le_of_ble_eq_true rfl) (by decide) rfl rfl mRvx mRvk
theorem u1171 : (Cond.code ⟨"java/lang/Integer", "getChars", "(II[B)I"⟩ prog_27_method_12_code 7 (some .int) : Cond) ∈ mTs := mTs_in 1171 (by decide +kernel) (by decide +kernel)
abbrev mJ6_getChars_ba4f3 : mM := (yJ6_getChars_ba4f3, cJ6_getChars_ba4f3, 7, (some .int), [])
theorem co_J6_getChars_ba4f3 : mCode mJ6_getChars_ba4f3 := ⟨u1171, u101, by decide⟩
theorem u1169 : (Cond.methodLink "java/lang/AbstractStringBuilder" 248 ⟨"java/lang/Integer", "getChars", "(II[B)I"⟩ : Cond) ∈ mTs := mTs_in 1169 (by decide +kernel) (by decide +kernel)
theorem u1170 : (Cond.static ⟨"java/lang/Integer", "getChars", "(II[B)I"⟩ : Cond) ∈ mTs := mTs_in 1170 (by decide +kernel) (by decide +kernel)
theorem l_J5_248 : mLinkS "java/lang/AbstractStringBuilder" 248 3 mJ6_getChars_ba4f3 := ⟨⟨by decide, by decide, by decide +kernel⟩, co_J6_getChars_ba4f3, u1169, u1170⟩
set_option maxHeartbeats 4000000 in
set_option maxRecDepth 100000 in
theorem gJ5_append_c97b9_17 {G : mG} {w : mH} {Φ : mF} {a0 : Nat} {x1 x2 x3 : Int32} {a0_0 : Nat} (h1 : hk w a0 = (12, 0)) (h2 : hfr w a0 0 = some a0_0) (k1 : ((vJ5_isLatin1_aae02 w a0) = 0) → mW G mJ5_append_c97b9 5 0 0 37 [(0, .ref a0), (1, .int x1), (2, .int x2), (3, .int x3)] [] w Φ) (k2 : (¬ ((vJ5_isLatin1_aae02 w a0) = 0)) → mC G mJ6_getChars_ba4f3 3 0 0 [.int x1, .int x3, .ref a0_0] w (mRi G mJ5_append_c97b9 5 0 0 33 [(0, .ref a0), (1, .int x1), (2, .int x2), (3, .int x3)] [] Φ)) : mW G mJ5_append_c97b9 5 0 0 17 [(0, .ref a0), (1, .int x1), (2, .int x2), (3, .int x3)] [] w Φ := by
  refine mW_aload_n (j := 0) dJ5_append_c97b9_17 rfl rfl ?_
  refine mW_callUe (As := []) (rest := []) (kc2 := 0) (ks2 := 0) dJ5_append_c97b9_18 l_J5_83 rfl h1 rfl (by decide) (qJ5_isLatin1_aae02 (w := w) (a0 := a0) h1) (Nat.le_of_ble_eq_true rfl) (by decide) rfl rfl ?_
  refine mW_if_eq (tgt := 37) dJ5_append_c97b9_21 (by decide) (fun c1 => ?_) (fun c1 => ?_)
  · exact k1 c1
  · refine mW_iload_n (j := 1) dJ5_append_c97b9_24 rfl rfl ?_
    refine mW_iload_n (j := 3) dJ5_append_c97b9_25 rfl rfl ?_
    refine mW_aload_n (j := 0) dJ5_append_c97b9_26 rfl rfl ?_
    refine mW_getR dJ5_append_c97b9_27 f_J5_15 h1 rfl h2 ?_
    refine mW_callS (As := [.int x1, .int x3, .ref a0_0]) (rest := []) (kc2 := 0) (ks2 := 0) dJ5_append_c97b9_30 l_J5_248 rfl (k2 c1) (Nat.le_of_ble_eq_true rfl) (by decide) rfl rfl mRix mRik
set_option maxHeartbeats 4000000 in
set_option maxRecDepth 100000 in
theorem gJ5_append_c97b9_33 {G : mG} {w : mH} {Φ : mF} {a0 : Nat} {x1 x2 x3 x_0 : Int32} (h1 : hk w a0 = (12, 0)) (k1 : ∀ w1 : mH, (w1 = sfi w a0 3 x3) → Φ (.inl (some (.ref a0))) w1) : mW G mJ5_append_c97b9 5 0 0 33 [(0, .ref a0), (1, .int x1), (2, .int x2), (3, .int x3)] [.int x_0] w Φ := by
  refine mW_pop dJ5_append_c97b9_33 rfl ?_
  refine mW_goto (tgt := 48) dJ5_append_c97b9_34 (by decide) ?_
  refine mW_aload_n (j := 0) dJ5_append_c97b9_48 rfl rfl ?_
  refine mW_iload_n (j := 3) dJ5_append_c97b9_49 rfl rfl ?_
  refine mW_put (ty := .int) (w2 := sfi w a0 3 x3) dJ5_append_c97b9_50 p_J5_79 h1 (Nat.le_of_ble_eq_true rfl) (by first | rfl | decide | (repeat' split) <;> rfl) rfl (hN_sfi _ _ _ _) (hk_sfi _ _ _ _) (mE_sfi h1 (by decide) (ob_12_3 _ _ _)) ?_
  refine mW_nm (fun w1 e1 => ?_)
  refine mW_aload_n (j := 0) dJ5_append_c97b9_53 rfl rfl ?_
  exact mW_aret (v := .ref a0) dJ5_append_c97b9_54 rfl (by first | exact Or.inl ⟨_, rfl⟩ | exact Or.inr ⟨_, rfl⟩) (by first | exact Or.inl rfl | exact Or.inr ⟨_, rfl⟩) (k1 w1 e1)
set_option maxHeartbeats 4000000 in
set_option maxRecDepth 100000 in
theorem gJ6_stringSize_0f7a4_0 {G : mG} {w : mH} {Φ : mF} {x0 : Int32}  (k1 : (x0 < 0) → mW G mJ6_stringSize_0f7a4 2 0 0 16 [(0, .int x0), (1, .int 1), (2, .int (-10)), (3, .int 1)] [] w Φ) (k2 : (¬ (x0 < 0)) → mW G mJ6_stringSize_0f7a4 2 0 0 16 [(0, .int (-x0)), (1, .int 0), (2, .int (-10)), (3, .int 1)] [] w Φ) : mW G mJ6_stringSize_0f7a4 2 0 0 0 [(0, .int x0)] [] w Φ := by
  refine mW_iconst (v := 1) dJ6_stringSize_0f7a4_0 (by decide) ?_
  refine mW_istore_n (lv2 := [(1, .int 1), (0, .int x0)]) dJ6_stringSize_0f7a4_1 rfl (by decide) rfl ?_
  refine mW_iload_n (j := 1) dJ6_stringSize_0f7a4_2 rfl rfl ?_
  refine mW_if_lt (tgt := 11) dJ6_stringSize_0f7a4_3 (by decide) (fun c1 => ?_) (fun c1 => ?_)
  · refine mW_bipush (v := (-10)) dJ6_stringSize_0f7a4_11 (by decide) ?_
    refine mW_istore_n (lv2 := [(2, .int (-10)), (1, .int 1), (0, .int x0)]) dJ6_stringSize_0f7a4_13 rfl (by decide) rfl ?_
    refine mW_iconst (v := 1) dJ6_stringSize_0f7a4_14 (by decide) ?_
    refine mW_istore_n (lv2 := [(3, .int 1), (2, .int (-10)), (1, .int 1), (0, .int x0)]) dJ6_stringSize_0f7a4_15 rfl (by decide) rfl ?_
    refine mW_loc [3, 2, 1, 0] (lv2 := [(0, .int x0), (1, .int 1), (2, .int (-10)), (3, .int 1)]) rfl ?_
    exact k1 c1
  · refine mW_iconst (v := 0) dJ6_stringSize_0f7a4_6 (by decide) ?_
    refine mW_istore_n (lv2 := [(1, .int 0), (0, .int x0)]) dJ6_stringSize_0f7a4_7 rfl (by decide) rfl ?_
    refine mW_iload_n (j := 1) dJ6_stringSize_0f7a4_8 rfl rfl ?_
    refine mW_ineg dJ6_stringSize_0f7a4_9 ?_
    refine mW_istore_n (lv2 := [(0, .int (-x0)), (1, .int 0)]) dJ6_stringSize_0f7a4_10 rfl (by decide) rfl ?_
    refine mW_bipush (v := (-10)) dJ6_stringSize_0f7a4_11 (by decide) ?_
    refine mW_istore_n (lv2 := [(2, .int (-10)), (0, .int (-x0)), (1, .int 0)]) dJ6_stringSize_0f7a4_13 rfl (by decide) rfl ?_
    refine mW_iconst (v := 1) dJ6_stringSize_0f7a4_14 (by decide) ?_
    refine mW_istore_n (lv2 := [(3, .int 1), (2, .int (-10)), (0, .int (-x0)), (1, .int 0)]) dJ6_stringSize_0f7a4_15 rfl (by decide) rfl ?_
    refine mW_loc [2, 3, 1, 0] (lv2 := [(0, .int (-x0)), (1, .int 0), (2, .int (-10)), (3, .int 1)]) rfl ?_
    exact k2 c1
set_option maxHeartbeats 4000000 in
set_option maxRecDepth 100000 in
theorem gJ6_stringSize_0f7a4_16 {G : mG} {w : mH} {Φ : mF} {x0 x1 x2 x3 : Int32}  (k1 : (10 ≤ x3) → Φ (.inl (some (.int (10 + x1)))) w) (k2 : (¬ (10 ≤ x3)) → (x0 ≤ x2) → mW G mJ6_stringSize_0f7a4 2 0 0 16 [(0, .int x0), (1, .int x1), (2, .int (10 * x2)), (3, .int (x3 + 1))] [] w Φ) (k3 : (¬ (10 ≤ x3)) → (¬ (x0 ≤ x2)) → Φ (.inl (some (.int (x3 + x1)))) w) : mW G mJ6_stringSize_0f7a4 2 0 0 16 [(0, .int x0), (1, .int x1), (2, .int x2), (3, .int x3)] [] w Φ := by
  refine mW_iload_n (j := 3) dJ6_stringSize_0f7a4_16 rfl rfl ?_
  refine mW_bipush (v := 10) dJ6_stringSize_0f7a4_17 (by decide) ?_
  refine mW_icmp_ge (tgt := 42) dJ6_stringSize_0f7a4_19 (by decide) (fun c1 => ?_) (fun c1 => ?_)
  · refine mW_bipush (v := 10) dJ6_stringSize_0f7a4_42 (by decide) ?_
    refine mW_iload_n (j := 1) dJ6_stringSize_0f7a4_44 rfl rfl ?_
    refine mW_iadd dJ6_stringSize_0f7a4_45 ?_
    exact mW_iret dJ6_stringSize_0f7a4_46 rfl (k1 c1)
  · refine mW_iload_n (j := 0) dJ6_stringSize_0f7a4_22 rfl rfl ?_
    refine mW_iload_n (j := 2) dJ6_stringSize_0f7a4_23 rfl rfl ?_
    refine mW_icmp_le (tgt := 31) dJ6_stringSize_0f7a4_24 (by decide) (fun c2 => ?_) (fun c2 => ?_)
    · refine mW_bipush (v := 10) dJ6_stringSize_0f7a4_31 (by decide) ?_
      refine mW_iload_n (j := 2) dJ6_stringSize_0f7a4_33 rfl rfl ?_
      refine mW_imul dJ6_stringSize_0f7a4_34 ?_
      refine mW_istore_n (lv2 := [(2, .int (10 * x2)), (0, .int x0), (1, .int x1), (3, .int x3)]) dJ6_stringSize_0f7a4_35 rfl (by decide) rfl ?_
      refine mW_iinc (j := 3) (v := x3 + 1) (lv2 := [(3, .int (x3 + 1)), (2, .int (10 * x2)), (0, .int x0), (1, .int x1)]) dJ6_stringSize_0f7a4_36 rfl rfl (by decide) rfl ?_
      refine mW_goto (tgt := 16) dJ6_stringSize_0f7a4_39 (by decide) ?_
      refine mW_loc [2, 3, 1, 0] (lv2 := [(0, .int x0), (1, .int x1), (2, .int (10 * x2)), (3, .int (x3 + 1))]) rfl ?_
      exact k2 c1 c2
    · refine mW_iload_n (j := 3) dJ6_stringSize_0f7a4_27 rfl rfl ?_
      refine mW_iload_n (j := 1) dJ6_stringSize_0f7a4_28 rfl rfl ?_
      refine mW_iadd dJ6_stringSize_0f7a4_29 ?_
      exact mW_iret dJ6_stringSize_0f7a4_30 rfl (k3 c1 c2)
set_option maxHeartbeats 4000000 in
set_option maxRecDepth 100000 in
theorem gJ6_getChars_ba4f3_0 {G : mG} {w : mH} {Φ : mF} {x0 x1 : Int32} {a2 : Nat}  (k1 : (0 ≤ x0) → mW G mJ6_getChars_ba4f3 3 0 0 22 [(0, .int (-x0)), (1, .int x1), (2, .ref a2), (5, .int x1), (6, .int 0)] [] w Φ) (k2 : (¬ (0 ≤ x0)) → mW G mJ6_getChars_ba4f3 3 0 0 22 [(0, .int x0), (1, .int x1), (2, .ref a2), (5, .int x1), (6, .int 1)] [] w Φ) : mW G mJ6_getChars_ba4f3 3 0 0 0 [(0, .int x0), (1, .int x1), (2, .ref a2)] [] w Φ := by
  refine mW_iload_n (j := 1) dJ6_getChars_ba4f3_0 rfl rfl ?_
  refine mW_istore (lv2 := [(5, .int x1), (0, .int x0), (1, .int x1), (2, .ref a2)]) dJ6_getChars_ba4f3_1 (by decide) rfl ?_
  refine mW_iload_n (j := 1) dJ6_getChars_ba4f3_3 rfl rfl ?_
  refine mW_if_ge (tgt := 11) dJ6_getChars_ba4f3_4 (by decide) (fun c1 => ?_) (fun c1 => ?_)
  · refine mW_iconst (v := 0) dJ6_getChars_ba4f3_11 (by decide) ?_
    refine mW_istore (lv2 := [(6, .int 0), (5, .int x1), (0, .int x0), (1, .int x1), (2, .ref a2)]) dJ6_getChars_ba4f3_12 (by decide) rfl ?_
    refine mW_iload (j := 0) dJ6_getChars_ba4f3_14 rfl ?_
    refine mW_if_ne (tgt := 22) dJ6_getChars_ba4f3_16 (by decide) (fun c => absurd (by decide) c) (fun _ => ?_)
    refine mW_iload_n (j := 2) dJ6_getChars_ba4f3_19 rfl rfl ?_
    refine mW_ineg dJ6_getChars_ba4f3_20 ?_
    refine mW_istore_n (lv2 := [(0, .int (-x0)), (6, .int 0), (5, .int x1), (1, .int x1), (2, .ref a2)]) dJ6_getChars_ba4f3_21 rfl (by decide) rfl ?_
    refine mW_loc [0, 3, 4, 2, 1] (lv2 := [(0, .int (-x0)), (1, .int x1), (2, .ref a2), (5, .int x1), (6, .int 0)]) rfl ?_
    exact k1 c1
  · refine mW_iconst (v := 1) dJ6_getChars_ba4f3_7 (by decide) ?_
    refine mW_goto (tgt := 12) dJ6_getChars_ba4f3_8 (by decide) ?_
    refine mW_istore (lv2 := [(6, .int 1), (5, .int x1), (0, .int x0), (1, .int x1), (2, .ref a2)]) dJ6_getChars_ba4f3_12 (by decide) rfl ?_
    refine mW_iload (j := 0) dJ6_getChars_ba4f3_14 rfl ?_
    refine mW_if_ne (tgt := 22) dJ6_getChars_ba4f3_16 (by decide) (fun _ => ?_) (fun c => absurd c (by decide))
    refine mW_loc [2, 3, 4, 1, 0] (lv2 := [(0, .int x0), (1, .int x1), (2, .ref a2), (5, .int x1), (6, .int 1)]) rfl ?_
    exact k2 c1
theorem u1172 : (Cond.fieldLink "java/lang/Integer" 83 "java/lang/Integer" "DigitOnes" "[B" : Cond) ∈ mTs := mTs_in 1172 (by decide +kernel) (by decide +kernel)
theorem u1174 : (Cond.fieldLink "java/lang/Integer" 87 "java/lang/Integer" "DigitTens" "[B" : Cond) ∈ mTs := mTs_in 1174 (by decide +kernel) (by decide +kernel)
set_option maxHeartbeats 4000000 in
set_option maxRecDepth 100000 in
theorem gJ6_getChars_ba4f3_22 {G : mG} {w : mH} {Φ : mF} {x0 x1 : Int32} {a2 : Nat} {x5 x6 : Int32} {n_a2 : Nat} (s1 : (¬ ((-100) < x0)) → vp_in (((x0 / 100) * 100) - x0) 100) (h1 : hk w a2 = (19, n_a2)) (s2 : (¬ ((-100) < x0)) → vp_in (x5 + (-1)) n_a2) (s3 : (¬ ((-100) < x0)) → ∀ w1 : mH, (w1 = sai w a2 ((x5 + (-1)).toNatClampNeg) (vp_nar .byte ((mSv 4).getD ((((x0 / 100) * 100) - x0).toNatClampNeg) 0))) → vp_in ((x5 + (-1)) + (-1)) n_a2) (k1 : ((-100) < x0) → mW G mJ6_getChars_ba4f3 3 0 0 72 [(0, .int x0), (1, .int x1), (2, .ref a2), (5, .int x5), (6, .int x6)] [] w Φ) (k2 : (¬ ((-100) < x0)) → ∀ w1 : mH, (w1 = sai w a2 ((x5 + (-1)).toNatClampNeg) (vp_nar .byte ((mSv 4).getD ((((x0 / 100) * 100) - x0).toNatClampNeg) 0))) → ∀ w2 : mH, (w2 = sai w1 a2 (((x5 + (-1)) + (-1)).toNatClampNeg) (vp_nar .byte ((mSv 3).getD ((((x0 / 100) * 100) - x0).toNatClampNeg) 0))) → mW G mJ6_getChars_ba4f3 3 0 0 22 [(0, .int (x0 / 100)), (1, .int x1), (2, .ref a2), (5, .int ((x5 + (-1)) + (-1))), (6, .int x6)] [] w2 Φ) : mW G mJ6_getChars_ba4f3 3 0 0 22 [(0, .int x0), (1, .int x1), (2, .ref a2), (5, .int x5), (6, .int x6)] [] w Φ := by
  refine mW_iload_n (j := 0) dJ6_getChars_ba4f3_22 rfl rfl ?_
  refine mW_bipush (v := (-100)) dJ6_getChars_ba4f3_23 (by decide) ?_
  refine mW_icmp_gt (tgt := 72) dJ6_getChars_ba4f3_25 (by decide) (fun c1 => ?_) (fun c1 => ?_)
  · exact k1 c1
  · refine mW_iload_n (j := 0) dJ6_getChars_ba4f3_28 rfl rfl ?_
    refine mW_bipush (v := 100) dJ6_getChars_ba4f3_29 (by decide) ?_
    refine mW_idiv dJ6_getChars_ba4f3_31 (by decide) ?_
    refine mW_istore_n (lv2 := [(3, .int (x0 / 100)), (0, .int x0), (1, .int x1), (2, .ref a2), (5, .int x5), (6, .int x6)]) dJ6_getChars_ba4f3_32 rfl (by decide) rfl ?_
    refine mW_iload_n (j := 0) dJ6_getChars_ba4f3_33 rfl rfl ?_
    refine mW_bipush (v := 100) dJ6_getChars_ba4f3_34 (by decide) ?_
    refine mW_imul dJ6_getChars_ba4f3_36 ?_
    refine mW_iload_n (j := 1) dJ6_getChars_ba4f3_37 rfl rfl ?_
    refine mW_isub dJ6_getChars_ba4f3_38 ?_
    refine mW_istore (lv2 := [(4, .int (((x0 / 100) * 100) - x0)), (3, .int (x0 / 100)), (0, .int x0), (1, .int x1), (2, .ref a2), (5, .int x5), (6, .int x6)]) dJ6_getChars_ba4f3_39 (by decide) rfl ?_
    refine mW_iload_n (j := 1) dJ6_getChars_ba4f3_41 rfl rfl ?_
    refine mW_istore_n (lv2 := [(0, .int (x0 / 100)), (4, .int (((x0 / 100) * 100) - x0)), (3, .int (x0 / 100)), (1, .int x1), (2, .ref a2), (5, .int x5), (6, .int x6)]) dJ6_getChars_ba4f3_42 rfl (by decide) rfl ?_
    refine mW_aload_n (j := 4) dJ6_getChars_ba4f3_43 rfl rfl ?_
    refine mW_iinc (j := 5) (v := x5 + (-1)) (lv2 := [(5, .int (x5 + (-1))), (0, .int (x0 / 100)), (4, .int (((x0 / 100) * 100) - x0)), (3, .int (x0 / 100)), (1, .int x1), (2, .ref a2), (6, .int x6)]) dJ6_getChars_ba4f3_44 rfl rfl (by decide) rfl ?_
    refine mW_iload (j := 0) dJ6_getChars_ba4f3_47 rfl ?_
    refine mW_getsS (i := 4) dJ6_getChars_ba4f3_49 (by decide) u1172 ?_
    refine mW_iload (j := 2) dJ6_getChars_ba4f3_52 rfl ?_
    refine mW_sbald (i := 4) (j := ((x0 / 100) * 100) - x0) dJ6_getChars_ba4f3_54 (by decide) (by decide) (s1 c1) ?_
    refine mW_bastJ dJ6_getChars_ba4f3_55 h1 (s2 c1) rfl ?_
    refine mW_nm (fun w1 e1 => ?_)
    refine mW_aload_n (j := 5) dJ6_getChars_ba4f3_56 rfl rfl ?_
    refine mW_iinc (j := 0) (v := (x5 + (-1)) + (-1)) (lv2 := [(5, .int ((x5 + (-1)) + (-1))), (0, .int (x0 / 100)), (4, .int (((x0 / 100) * 100) - x0)), (3, .int (x0 / 100)), (1, .int x1), (2, .ref a2), (6, .int x6)]) dJ6_getChars_ba4f3_57 rfl rfl (by decide) rfl ?_
    refine mW_iload (j := 0) dJ6_getChars_ba4f3_60 rfl ?_
    refine mW_getsS (i := 3) dJ6_getChars_ba4f3_62 (by decide) u1174 ?_
    refine mW_iload (j := 2) dJ6_getChars_ba4f3_65 rfl ?_
    refine mW_sbald (i := 3) (j := ((x0 / 100) * 100) - x0) dJ6_getChars_ba4f3_67 (by decide) (by decide) (s1 c1) ?_
    refine mW_bastJ dJ6_getChars_ba4f3_68 (s2k (S2_sai e1) h1) (s3 c1 w1 e1) rfl ?_
    refine mW_nm (fun w2 e2 => ?_)
    refine mW_goto (tgt := 22) dJ6_getChars_ba4f3_69 (by decide) ?_
    refine mW_loc [1, 4, 5, 0, 6] (lv2 := [(0, .int (x0 / 100)), (1, .int x1), (2, .ref a2), (5, .int ((x5 + (-1)) + (-1))), (6, .int x6)]) rfl ?_
    exact k2 c1 w1 e1 w2 e2
set_option maxHeartbeats 4000000 in
set_option maxRecDepth 100000 in
theorem gJ6_getChars_ba4f3_72 {G : mG} {w : mH} {Φ : mF} {x0 x1 : Int32} {a2 : Nat} {x5 x6 : Int32} {n_a2 : Nat} (s1 : vp_in (-x0) 100) (h1 : hk w a2 = (19, n_a2)) (s2 : vp_in (x5 + (-1)) n_a2) (s3 : ∀ w1 : mH, (w1 = sai w a2 ((x5 + (-1)).toNatClampNeg) (vp_nar .byte ((mSv 4).getD ((-x0).toNatClampNeg) 0))) → (¬ ((-9) ≤ x0)) → vp_in ((x5 + (-1)) + (-1)) n_a2) (k1 : ∀ w1 : mH, (w1 = sai w a2 ((x5 + (-1)).toNatClampNeg) (vp_nar .byte ((mSv 4).getD ((-x0).toNatClampNeg) 0))) → ((-9) ≤ x0) → mW G mJ6_getChars_ba4f3 3 0 0 104 [(0, .int x0), (1, .int x1), (2, .ref a2), (5, .int (x5 + (-1))), (6, .int x6)] [] w1 Φ) (k2 : ∀ w1 : mH, (w1 = sai w a2 ((x5 + (-1)).toNatClampNeg) (vp_nar .byte ((mSv 4).getD ((-x0).toNatClampNeg) 0))) → (¬ ((-9) ≤ x0)) → ∀ w2 : mH, (w2 = sai w1 a2 (((x5 + (-1)) + (-1)).toNatClampNeg) (vp_nar .byte ((mSv 3).getD ((-x0).toNatClampNeg) 0))) → mW G mJ6_getChars_ba4f3 3 0 0 104 [(0, .int x0), (1, .int x1), (2, .ref a2), (5, .int ((x5 + (-1)) + (-1))), (6, .int x6)] [] w2 Φ) : mW G mJ6_getChars_ba4f3 3 0 0 72 [(0, .int x0), (1, .int x1), (2, .ref a2), (5, .int x5), (6, .int x6)] [] w Φ := by
  refine mW_aload_n (j := 2) dJ6_getChars_ba4f3_72 rfl rfl ?_
  refine mW_iinc (j := 3) (v := x5 + (-1)) (lv2 := [(5, .int (x5 + (-1))), (0, .int x0), (1, .int x1), (2, .ref a2), (6, .int x6)]) dJ6_getChars_ba4f3_73 rfl rfl (by decide) rfl ?_
  refine mW_iload (j := 0) dJ6_getChars_ba4f3_76 rfl ?_
  refine mW_getsS (i := 4) dJ6_getChars_ba4f3_78 (by decide) u1172 ?_
  refine mW_iload_n (j := 1) dJ6_getChars_ba4f3_81 rfl rfl ?_
  refine mW_ineg dJ6_getChars_ba4f3_82 ?_
  refine mW_sbald (i := 4) (j := -x0) dJ6_getChars_ba4f3_83 (by decide) (by decide) s1 ?_
  refine mW_bastJ dJ6_getChars_ba4f3_84 h1 s2 rfl ?_
  refine mW_nm (fun w1 e1 => ?_)
  refine mW_iload_n (j := 1) dJ6_getChars_ba4f3_85 rfl rfl ?_
  refine mW_bipush (v := (-9)) dJ6_getChars_ba4f3_86 (by decide) ?_
  refine mW_icmp_ge (tgt := 104) dJ6_getChars_ba4f3_88 (by decide) (fun c1 => ?_) (fun c1 => ?_)
  · refine mW_loc [1, 2, 3, 0, 4] (lv2 := [(0, .int x0), (1, .int x1), (2, .ref a2), (5, .int (x5 + (-1))), (6, .int x6)]) rfl ?_
    exact k1 w1 e1 c1
  · refine mW_aload_n (j := 3) dJ6_getChars_ba4f3_91 rfl rfl ?_
    refine mW_iinc (j := 0) (v := (x5 + (-1)) + (-1)) (lv2 := [(5, .int ((x5 + (-1)) + (-1))), (0, .int x0), (1, .int x1), (2, .ref a2), (6, .int x6)]) dJ6_getChars_ba4f3_92 rfl rfl (by decide) rfl ?_
    refine mW_iload (j := 0) dJ6_getChars_ba4f3_95 rfl ?_
    refine mW_getsS (i := 3) dJ6_getChars_ba4f3_97 (by decide) u1174 ?_
    refine mW_iload_n (j := 1) dJ6_getChars_ba4f3_100 rfl rfl ?_
    refine mW_ineg dJ6_getChars_ba4f3_101 ?_
    refine mW_sbald (i := 3) (j := -x0) dJ6_getChars_ba4f3_102 (by decide) (by decide) s1 ?_
    refine mW_bastJ dJ6_getChars_ba4f3_103 (s2k (S2_sai e1) h1) (s3 w1 e1 c1) rfl ?_
    refine mW_nm (fun w2 e2 => ?_)
    refine mW_loc [1, 2, 3, 0, 4] (lv2 := [(0, .int x0), (1, .int x1), (2, .ref a2), (5, .int ((x5 + (-1)) + (-1))), (6, .int x6)]) rfl ?_
    exact k2 w1 e1 c1 w2 e2
set_option maxHeartbeats 4000000 in
set_option maxRecDepth 100000 in
theorem gJ6_getChars_ba4f3_104 {G : mG} {w : mH} {Φ : mF} {x0 x1 : Int32} {a2 : Nat} {x5 x6 : Int32} {n_a2 : Nat} (h1 : hk w a2 = (19, n_a2)) (s1 : (¬ (x6 = 0)) → vp_in (x5 + (-1)) n_a2) (k1 : (x6 = 0) → Φ (.inl (some (.int x5))) w) (k2 : (¬ (x6 = 0)) → ∀ w1 : mH, (w1 = sai w a2 ((x5 + (-1)).toNatClampNeg) (vp_nar .byte 45)) → Φ (.inl (some (.int (x5 + (-1))))) w1) : mW G mJ6_getChars_ba4f3 3 0 0 104 [(0, .int x0), (1, .int x1), (2, .ref a2), (5, .int x5), (6, .int x6)] [] w Φ := by
  refine mW_iload (j := 4) dJ6_getChars_ba4f3_104 rfl ?_
  refine mW_if_eq (tgt := 118) dJ6_getChars_ba4f3_106 (by decide) (fun c1 => ?_) (fun c1 => ?_)
  · refine mW_iload (j := 3) dJ6_getChars_ba4f3_118 rfl ?_
    exact mW_iret dJ6_getChars_ba4f3_120 rfl (k1 c1)
  · refine mW_aload_n (j := 2) dJ6_getChars_ba4f3_109 rfl rfl ?_
    refine mW_iinc (j := 3) (v := x5 + (-1)) (lv2 := [(5, .int (x5 + (-1))), (0, .int x0), (1, .int x1), (2, .ref a2), (6, .int x6)]) dJ6_getChars_ba4f3_110 rfl rfl (by decide) rfl ?_
    refine mW_iload (j := 0) dJ6_getChars_ba4f3_113 rfl ?_
    refine mW_bipush (v := 45) dJ6_getChars_ba4f3_115 (by decide) ?_
    refine mW_bastJ dJ6_getChars_ba4f3_117 h1 (s1 c1) rfl ?_
    refine mW_nm (fun w1 e1 => ?_)
    refine mW_iload (j := 0) dJ6_getChars_ba4f3_118 rfl ?_
    exact mW_iret dJ6_getChars_ba4f3_120 rfl (k2 c1 w1 e1)
abbrev mJ4_append_cf468 : mM := (yJ4_append_cf468, cJ4_append_cf468, 2, (some (.object "java/lang/StringBuilder")), [])
theorem u1313 : (Cond.code ⟨"java/lang/AbstractStringBuilder", "append", "(C)Ljava/lang/AbstractStringBuilder;"⟩ prog_15_method_31_code 2 (some (.object "java/lang/AbstractStringBuilder")) : Cond) ∈ mTs := mTs_in 1313 (by decide +kernel) (by decide +kernel)
theorem co_J5_append_3fe6f : mCode mJ5_append_3fe6f := ⟨u1313, u77, by decide⟩
theorem u1311 : (Cond.methodLink "java/lang/StringBuilder" 50 ⟨"java/lang/AbstractStringBuilder", "append", "(C)Ljava/lang/AbstractStringBuilder;"⟩ : Cond) ∈ mTs := mTs_in 1311 (by decide +kernel) (by decide +kernel)
theorem u1312 : (Cond.instanceMethod ⟨"java/lang/AbstractStringBuilder", "append", "(C)Ljava/lang/AbstractStringBuilder;"⟩ : Cond) ∈ mTs := mTs_in 1312 (by decide +kernel) (by decide +kernel)
theorem u1998 : (Cond.sameMethod "java/lang/AbstractStringBuilder" "java/lang/AbstractStringBuilder" "append" "(C)Ljava/lang/AbstractStringBuilder;" : Cond) ∈ mTs := mTs_in 1998 (by decide +kernel) (by decide +kernel)
theorem u310 : (Cond.superclass "java/lang/StringBuilder" "java/lang/AbstractStringBuilder" : Cond) ∈ mTs := mTs_in 310 (by decide +kernel) (by decide +kernel)
theorem l_J4_50 : mLinkSU "java/lang/StringBuilder" 50 1 mJ5_append_3fe6f := ⟨⟨by decide, by decide, by decide +kernel⟩, co_J5_append_3fe6f, u1311, u1312, u1998, u310, by decide⟩
set_option maxHeartbeats 4000000 in
set_option maxRecDepth 100000 in
theorem gJ4_append_cf468_0 {G : mG} {w : mH} {Φ : mF} {a0 : Nat} {x1 : Int32} (h1 : hk w a0 = (12, 0)) (k1 : mC G mJ5_append_3fe6f 5 1 142 [.ref a0, .int x1] w (mRr G mJ4_append_cf468 6 0 0 5 [(0, .ref a0), (1, .int x1)] [] Φ)) : mW G mJ4_append_cf468 6 1 142 0 [(0, .ref a0), (1, .int x1)] [] w Φ := by
  refine mW_aload_n (j := 0) dJ4_append_cf468_0 rfl rfl ?_
  refine mW_iload_n (j := 1) dJ4_append_cf468_1 rfl rfl ?_
  refine mW_callSU (As := [.int x1]) (rest := []) (kc2 := 0) (ks2 := 0) dJ4_append_cf468_2 l_J4_50 rfl h1 rfl (by decide) (k1) (Nat.le_of_ble_eq_true rfl) (by decide) rfl rfl mRrx mRrk
set_option maxHeartbeats 4000000 in
set_option maxRecDepth 100000 in
theorem gJ4_append_cf468_5 {G : mG} {w : mH} {Φ : mF} {a0 : Nat} {x1 : Int32} {a_0 : Nat}  (k1 : Φ (.inl (some (.ref a0))) w) : mW G mJ4_append_cf468 6 0 0 5 [(0, .ref a0), (1, .int x1)] [.ref a_0] w Φ := by
  refine mW_pop dJ4_append_cf468_5 rfl ?_
  refine mW_aload_n (j := 0) dJ4_append_cf468_6 rfl rfl ?_
  exact mW_aret (v := .ref a0) dJ4_append_cf468_7 rfl (by first | exact Or.inl ⟨_, rfl⟩ | exact Or.inr ⟨_, rfl⟩) (by first | exact Or.inl rfl | exact Or.inr ⟨_, rfl⟩) (k1)
abbrev mJ4_append_bf812 : mM := (yJ4_append_bf812, cJ4_append_bf812, 2, (some (.object "java/lang/StringBuilder")), [])
theorem u1165 : (Cond.code ⟨"java/lang/AbstractStringBuilder", "append", "(I)Ljava/lang/AbstractStringBuilder;"⟩ prog_15_method_32_code 4 (some (.object "java/lang/AbstractStringBuilder")) : Cond) ∈ mTs := mTs_in 1165 (by decide +kernel) (by decide +kernel)
theorem co_J5_append_c97b9 : mCode mJ5_append_c97b9 := ⟨u1165, u77, by decide⟩
theorem u1163 : (Cond.methodLink "java/lang/StringBuilder" 53 ⟨"java/lang/AbstractStringBuilder", "append", "(I)Ljava/lang/AbstractStringBuilder;"⟩ : Cond) ∈ mTs := mTs_in 1163 (by decide +kernel) (by decide +kernel)
theorem u1164 : (Cond.instanceMethod ⟨"java/lang/AbstractStringBuilder", "append", "(I)Ljava/lang/AbstractStringBuilder;"⟩ : Cond) ∈ mTs := mTs_in 1164 (by decide +kernel) (by decide +kernel)
theorem u1996 : (Cond.sameMethod "java/lang/AbstractStringBuilder" "java/lang/AbstractStringBuilder" "append" "(I)Ljava/lang/AbstractStringBuilder;" : Cond) ∈ mTs := mTs_in 1996 (by decide +kernel) (by decide +kernel)
theorem l_J4_53 : mLinkSU "java/lang/StringBuilder" 53 1 mJ5_append_c97b9 := ⟨⟨by decide, by decide, by decide +kernel⟩, co_J5_append_c97b9, u1163, u1164, u1996, u310, by decide⟩
set_option maxHeartbeats 4000000 in
set_option maxRecDepth 100000 in
theorem gJ4_append_bf812_0 {G : mG} {w : mH} {Φ : mF} {a0 : Nat} {x1 : Int32} (h1 : hk w a0 = (12, 0)) (k1 : mC G mJ5_append_c97b9 5 1 142 [.ref a0, .int x1] w (mRr G mJ4_append_bf812 6 0 0 5 [(0, .ref a0), (1, .int x1)] [] Φ)) : mW G mJ4_append_bf812 6 1 142 0 [(0, .ref a0), (1, .int x1)] [] w Φ := by
  refine mW_aload_n (j := 0) dJ4_append_bf812_0 rfl rfl ?_
  refine mW_iload_n (j := 1) dJ4_append_bf812_1 rfl rfl ?_
  refine mW_callSU (As := [.int x1]) (rest := []) (kc2 := 0) (ks2 := 0) dJ4_append_bf812_2 l_J4_53 rfl h1 rfl (by decide) (k1) (Nat.le_of_ble_eq_true rfl) (by decide) rfl rfl mRrx mRrk
set_option maxHeartbeats 4000000 in
set_option maxRecDepth 100000 in
theorem gJ4_append_bf812_5 {G : mG} {w : mH} {Φ : mF} {a0 : Nat} {x1 : Int32} {a_0 : Nat}  (k1 : Φ (.inl (some (.ref a0))) w) : mW G mJ4_append_bf812 6 0 0 5 [(0, .ref a0), (1, .int x1)] [.ref a_0] w Φ := by
  refine mW_pop dJ4_append_bf812_5 rfl ?_
  refine mW_aload_n (j := 0) dJ4_append_bf812_6 rfl rfl ?_
  exact mW_aret (v := .ref a0) dJ4_append_bf812_7 rfl (by first | exact Or.inl ⟨_, rfl⟩ | exact Or.inr ⟨_, rfl⟩) (by first | exact Or.inl rfl | exact Or.inr ⟨_, rfl⟩) (k1)
/-- the digits of n -/
def dgs (n : Nat) : List Int32 := (if 100 ≤ n then [nI (48 + n / 100)] else []) ++ ((if 10 ≤ n then [nI (48 + n / 10 % 10)] else []) ++ [nI (48 + n % 10)])
theorem dgs_p : ∀ n, n < 1000 → dNum (nI n) = dgs n := by decide +kernel
theorem dgs_n : ∀ n, n < 1000 → 0 < n → dNum (-nI n) = 45 :: dgs n := by decide +kernel
theorem dgs_l : ∀ n, n < 1000 → (dgs n).length = if 100 ≤ n then 3 else if 10 ≤ n then 2 else 1 := by decide +kernel
theorem dgs_f : ∀ n, n < 1000 → ∀ i, i < (dNum (nI n)).length → cF ((dNum (nI n)).getD i 0) := by unfold cF; decide +kernel
theorem dgs_g : ∀ n, n < 1000 → ∀ i, i < (dNum (-nI n)).length → cF ((dNum (-nI n)).getD i 0) := by unfold cF; decide +kernel
theorem t9 : ∀ n, n < 100 → ((-9 : Int32) ≤ -nI n ↔ n ≤ 9) := by decide +kernel
theorem t100 : ∀ n, n < 1000 → ((-100 : Int32) < -nI n ↔ n < 100) := by decide +kernel
theorem t10 : ∀ n, n < 1000 → (-nI n ≤ (-10 : Int32) ↔ 10 ≤ n) := by decide +kernel
theorem t10b : ∀ n, n < 1000 → (-nI n ≤ (10 : Int32) * -10 ↔ 100 ≤ n) := by decide +kernel
theorem t10c : ∀ n, n < 1000 → ¬ (-nI n ≤ (10 : Int32) * (10 * -10)) := by decide +kernel
theorem tdv : ∀ n, n < 1000 → (-nI n) / 100 = -nI (n / 100) := by decide +kernel
theorem tmd : ∀ n, n < 1000 → (-nI n) / 100 * 100 - (-nI n) = nI (n % 100) := by decide +kernel
theorem tng : ∀ n, n < 1000 → 0 < n → (-nI n < 0 ∧ ¬ (0 : Int32) ≤ -nI n) := by decide +kernel
theorem tps : ∀ n, n < 1000 → ¬ nI n < 0 ∧ (0 : Int32) ≤ nI n := by decide +kernel
theorem tF4 : ∀ n, n < 100 → vp_nar .byte ((mSv 4).getD (nI n).toNatClampNeg 0) = nI (48 + n % 10) := by decide +kernel
theorem tF3 : ∀ n, n < 100 → vp_nar .byte ((mSv 3).getD (nI n).toNatClampNeg 0) = nI (48 + n / 10) := by decide +kernel
theorem tch : ∀ n, n < 128 → vp_nar .byte (nI n).toInt8.toInt32 = nI n := by decide +kernel
theorem ten : ∀ n, n < 128 → ¬ vJ1_canEncode_fc78d (nI n) = 0 := by decide +kernel
theorem nI_mi {k : Nat} (h : 0 < k) : nI k + (-1) = nI (k - 1) := by
  obtain ⟨j, rfl⟩ : ∃ j, k = j + 1 := ⟨k - 1, by omega⟩
  rw [← m_p1, Int32.add_assoc, show (1 : Int32) + -1 = 0 from by decide, Int32.add_zero, Nat.add_sub_cancel]
/-- what a number may be -/
def sm (x : Int32) : Prop := ∃ n, n < 1000 ∧ (x = nI n ∨ (x = -nI n ∧ 0 < n))
def wrB (w w' : mH) (p e : Nat) (l : List Int32) : Prop := (hN w' = hN w ∧ hk w' = hk w ∧ hfi w' = hfi w ∧ hfl w' = hfl w ∧ hfr w' = hfr w ∧ hal w' = hal w ∧ har w' = har w) ∧ (∀ q, q ≠ p → hai w' q = hai w q) ∧ l.length ≤ e ∧ (∀ i, i < l.length → hai w' p (e - l.length + i) = l.getD i 0) ∧ (∀ i, (i < e - l.length ∨ e ≤ i) → hai w' p i = hai w p i)
theorem wrB_0 {w : mH} {p e : Nat} : wrB w w p e [] := ⟨⟨rfl, rfl, rfl, rfl, rfl, rfl, rfl⟩, fun _ _ => rfl, Nat.zero_le _, fun i hi => absurd hi (Nat.not_lt_zero i), fun _ _ => rfl⟩
theorem wrB_c {w w' : mH} {p e j : Nat} {l : List Int32} {v : Int32} (h : wrB w w' p e l) (hl : l.length + 1 ≤ e) (hj : j = e - l.length - 1) : wrB w (sai w' p j v) p e (v :: l) := by
  obtain ⟨h1, h2, h3, h4, h5⟩ := h
  subst hj
  refine ⟨h1, fun q hq => ?_, by rw [List.length_cons]; exact hl, fun i hi => ?_, fun i hi => ?_⟩
  · show up2 (hai w') p _ v q = _
    rw [up2_a _ _ _ hq]; exact h2 q hq
  · rw [List.length_cons] at hi ⊢
    show up2 (hai w') p _ v p _ = _
    cases i with
    | zero => rw [show e - (l.length + 1) + 0 = e - l.length - 1 from by omega, up2_at]; rfl
    | succ i =>
      rw [up2_k _ _ _ (by omega), show e - (l.length + 1) + (i + 1) = e - l.length + i from by omega, h4 i (by omega)]
      rfl
  · rw [List.length_cons] at hi
    show up2 (hai w') p _ v p _ = _
    rw [up2_k _ _ _ (by omega)]
    exact h5 i (by omega)
def d2 (n : Nat) (l : List Int32) : List Int32 := if 10 ≤ n then nI (48 + n / 10) :: nI (48 + n % 10) :: l else nI (48 + n % 10) :: l
theorem gc_72 {G : mG} {w w' : mH} {Φ : mF} {x1 x6 : Int32} {p m e n : Nat} {l : List Int32} (hp : hk w p = (19, m)) (W : wrB w w' p e l) (he : e ≤ m) (hm : m ≤ 142) (hn : n < 100) (hl : (d2 n l).length ≤ e) (K : ∀ (w2 : mH) (y : Int32), y = nI (e - (d2 n l).length) → wrB w w2 p e (d2 n l) → mW G mJ6_getChars_ba4f3 3 0 0 104 [(0, .int (-nI n)), (1, .int x1), (2, .ref p), (5, .int y), (6, .int x6)] [] w2 Φ) : mW G mJ6_getChars_ba4f3 3 0 0 72 [(0, .int (-nI n)), (1, .int x1), (2, .ref p), (5, .int (nI (e - l.length))), (6, .int x6)] [] w' Φ := by
  have q1 : l.length + 1 ≤ e := by
    by_cases q : 10 ≤ n
    · unfold d2 at hl; rw [if_pos q, List.length_cons, List.length_cons] at hl; omega
    · unfold d2 at hl; rw [if_neg q, List.length_cons] at hl; omega
  have a1 : nI (e - l.length) + (-1) = nI (e - l.length - 1) := nI_mi (by omega)
  have o1 : vp_nar .byte ((mSv 4).getD (- -nI n).toNatClampNeg 0) = nI (48 + n % 10) := by rw [Int32.neg_neg]; exact tF4 n hn
  have o2 : vp_nar .byte ((mSv 3).getD (- -nI n).toNatClampNeg 0) = nI (48 + n / 10) := by rw [Int32.neg_neg]; exact tF3 n hn
  have q2 : 10 ≤ n → l.length + 2 ≤ e := fun q => by unfold d2 at hl; rw [if_pos q, List.length_cons, List.length_cons] at hl; omega
  refine gJ6_getChars_ba4f3_72 (by rw [Int32.neg_neg]; exact m_vp hn (by decide)) (n_a2 := m) (by rw [W.1.2.1]; exact hp) (by rw [a1]; exact m_vp (by omega) (by omega)) (fun w1 e1 c1 => ?_) (fun w1 e1 c1 => ?_) (fun w1 e1 c1 w2 e2 => ?_)
  · rw [t9 n hn] at c1
    have := q2 (by omega)
    rw [a1, nI_mi (by omega)]; exact m_vp (by omega) (by omega)
  · rw [t9 n hn] at c1
    rw [o1, a1, m_cl (by omega)] at e1
    subst e1
    have ed : d2 n l = nI (48 + n % 10) :: l := by unfold d2; rw [if_neg (by omega)]
    rw [a1]
    refine K _ _ ?_ ?_
    · rw [ed, List.length_cons]; rfl
    · rw [ed]; exact wrB_c W q1 rfl
  · rw [t9 n hn] at c1
    have q3 := q2 (by omega)
    have a2 : nI (e - l.length - 1) + (-1) = nI (e - l.length - 1 - 1) := nI_mi (by omega)
    rw [o1, a1, m_cl (by omega)] at e1
    rw [o2, a1, a2, m_cl (by omega)] at e2
    subst e1
    subst e2
    have ed : d2 n l = nI (48 + n / 10) :: nI (48 + n % 10) :: l := by unfold d2; rw [if_pos (by omega)]
    rw [a1, a2]
    refine K _ _ ?_ ?_
    · rw [ed, List.length_cons, List.length_cons]; rfl
    · rw [ed]; exact wrB_c (wrB_c W q1 rfl) (by rw [List.length_cons]; omega) (by rw [List.length_cons]; omega)
theorem gc_22 {G : mG} {w : mH} {Φ : mF} {x1 x6 : Int32} {p m e n : Nat} (hp : hk w p = (19, m)) (he : e ≤ m) (hm : m ≤ 142) (hn : n < 1000) (hl : (dgs n).length ≤ e) (K : ∀ (w2 : mH) (x y : Int32), y = nI (e - (dgs n).length) → wrB w w2 p e (dgs n) → mW G mJ6_getChars_ba4f3 3 0 0 104 [(0, .int x), (1, .int x1), (2, .ref p), (5, .int y), (6, .int x6)] [] w2 Φ) : mW G mJ6_getChars_ba4f3 3 0 0 22 [(0, .int (-nI n)), (1, .int x1), (2, .ref p), (5, .int (nI e)), (6, .int x6)] [] w Φ := by
  have hd := dgs_l n hn
  by_cases q : n < 100
  · have ed : d2 n [] = dgs n := by
      unfold d2 dgs
      rw [if_neg (show ¬ 100 ≤ n by omega)]
      by_cases g : 10 ≤ n
      · rw [if_pos g, if_pos g, show n / 10 % 10 = n / 10 from by omega]; rfl
      · rw [if_neg g, if_neg g]; rfl
    refine gJ6_getChars_ba4f3_22 (fun c => absurd ((t100 n hn).mpr q) c) hp (fun c => absurd ((t100 n hn).mpr q) c) (fun c => absurd ((t100 n hn).mpr q) c) (fun c1 => ?_) (fun c => absurd ((t100 n hn).mpr q) c)
    exact gc_72 (l := []) hp wrB_0 he hm q (by rw [ed]; exact hl) (fun w2 y hy W => K w2 _ y (by rw [← ed]; exact hy) (by rw [← ed]; exact W))
  · rw [if_pos (by omega)] at hd
    have hd1 : n / 100 < 10 := by omega
    have hm1 : n % 100 < 100 := Nat.mod_lt _ (by decide)
    have a1 : nI e + (-1) = nI (e - 1) := nI_mi (by omega)
    have a2 : nI (e - 1) + (-1) = nI (e - 1 - 1) := nI_mi (by omega)
    have ed : d2 (n / 100) [nI (48 + n % 100 / 10), nI (48 + n % 100 % 10)] = dgs n := by
      unfold d2 dgs
      rw [if_neg (show ¬ 10 ≤ n / 100 by omega), if_pos (show 100 ≤ n by omega), if_pos (show 10 ≤ n by omega), show n / 100 % 10 = n / 100 from by omega, show n % 100 / 10 = n / 10 % 10 from by omega, show n % 100 % 10 = n % 10 from by omega]
      rfl
    refine gJ6_getChars_ba4f3_22 (fun c => ?_) hp (fun c => ?_) (fun c w1 e1 => ?_) (fun c => absurd ((t100 n hn).mp c) q) (fun c w1 e1 w2 e2 => ?_)
    · rw [tmd n hn]; exact m_vp hm1 (by decide)
    · rw [a1]; exact m_vp (by omega) (by omega)
    · rw [a1, a2]; exact m_vp (by omega) (by omega)
    · rw [tmd n hn, tF4 _ hm1, a1, m_cl (by omega)] at e1
      rw [tmd n hn, tF3 _ hm1, a1, a2, m_cl (by omega)] at e2
      subst e1
      subst e2
      rw [tdv n hn, a1, a2]
      have W : wrB w _ p e [nI (48 + n % 100 / 10), nI (48 + n % 100 % 10)] := wrB_c (wrB_c (wrB_0 (w := w)) (by show 0 + 1 ≤ e; omega) (j := e - 1) rfl) (by show 1 + 1 ≤ e; omega) (j := e - 1 - 1) rfl
      have hb : n / 100 < 1000 := by omega
      have hq : (-100 : Int32) < -nI (n / 100) := (t100 _ hb).mpr (by omega)
      refine gJ6_getChars_ba4f3_22 (fun c => absurd hq c) (n_a2 := m) hp (fun c => absurd hq c) (fun c => absurd hq c) (fun c1 => ?_) (fun c => absurd hq c)
      exact gc_72 (l := [nI (48 + n % 100 / 10), nI (48 + n % 100 % 10)]) hp W he hm (by omega) (by rw [ed]; exact hl) (fun w2 y hy W => K w2 _ y (by rw [← ed]; exact hy) (by rw [← ed]; exact W))
theorem rGC {G : mG} {w : mH} {x : Int32} {p m e : Nat} (hp : hk w p = (19, m)) (he : e ≤ m) (hm : m ≤ 142) (hx : sm x) (hl : (dNum x).length ≤ e) : mC G mJ6_getChars_ba4f3 3 0 0 [.int x, .int (nI e), .ref p] w (fun o w' => (∃ r, o = .inl (some (.int r))) ∧ wrB w w' p e (dNum x)) := by
  refine mC_of (by decide +kernel) rfl (Nat.le_of_ble_eq_true rfl) rfl ?_
  obtain ⟨n, hn, h | ⟨h, h0⟩⟩ := hx
  · subst h
    rw [dgs_p n hn] at hl ⊢
    refine gJ6_getChars_ba4f3_0 (fun c1 => ?_) (fun c1 => absurd (tps n hn).2 c1)
    refine gc_22 hp he hm hn hl (fun w2 x y hy W => ?_)
    exact gJ6_getChars_ba4f3_104 (n_a2 := m) (by rw [W.1.2.1]; exact hp) (fun c => absurd rfl c) (fun c1 => ⟨⟨_, rfl⟩, W⟩) (fun c => absurd rfl c)
  · subst h
    rw [dgs_n n hn h0] at hl ⊢
    rw [List.length_cons] at hl
    refine gJ6_getChars_ba4f3_0 (fun c1 => absurd c1 (tng n hn h0).2) (fun c1 => ?_)
    refine gc_22 hp he hm hn (by omega) (fun w2 x y hy W => ?_)
    have a1 : nI (e - (dgs n).length) + (-1) = nI (e - (dgs n).length - 1) := nI_mi (by omega)
    subst hy
    refine gJ6_getChars_ba4f3_104 (n_a2 := m) (by rw [W.1.2.1]; exact hp) (fun c => by rw [a1]; exact m_vp (by omega) (by omega)) (fun c1 => absurd c1 (by decide)) (fun c w1 e1 => ⟨⟨_, rfl⟩, ?_⟩)
    rw [a1, m_cl (by omega)] at e1
    subst e1
    exact wrB_c W (by omega) rfl
theorem sz_16 {G : mG} {w : mH} {Φ : mF} {x1 : Int32} {n : Nat} (hn : n < 1000) (K : Φ (.inl (some (.int (nI (dgs n).length + x1)))) w) : mW G mJ6_stringSize_0f7a4 2 0 0 16 [(0, .int (-nI n)), (1, .int x1), (2, .int (-10)), (3, .int 1)] [] w Φ := by
  have hd := dgs_l n hn
  refine gJ6_stringSize_0f7a4_16 (fun c => absurd c (by decide)) (fun c1 c2 => ?_) (fun c1 c2 => ?_)
  · rw [t10 n hn] at c2
    refine gJ6_stringSize_0f7a4_16 (fun c => absurd c (by decide)) (fun c1 c3 => ?_) (fun c1 c3 => ?_)
    · rw [t10b n hn] at c3
      refine gJ6_stringSize_0f7a4_16 (fun c => absurd c (by decide)) (fun c1 c3 => absurd c3 (t10c n hn)) (fun c1 c4 => ?_)
      rw [if_pos c3] at hd
      rw [hd] at K
      exact K
    · rw [t10b n hn] at c3
      rw [if_neg c3, if_pos c2] at hd
      rw [hd] at K
      exact K
  · rw [t10 n hn] at c2
    rw [if_neg (by omega), if_neg c2] at hd
    rw [hd] at K
    exact K
theorem rSZ {G : mG} {w : mH} {x : Int32} (hx : sm x) : mC G mJ6_stringSize_0f7a4 2 0 0 [.int x] w (mEq (.inl (some (.int (nI (dNum x).length)))) w) := by
  refine mC_of (by decide +kernel) rfl (Nat.le_of_ble_eq_true rfl) rfl ?_
  obtain ⟨n, hn, h | ⟨h, h0⟩⟩ := hx
  · subst h
    rw [dgs_p n hn]
    refine gJ6_stringSize_0f7a4_0 (fun c1 => absurd c1 (tps n hn).1) (fun c1 => ?_)
    refine sz_16 hn ?_
    rw [Int32.add_zero]
    exact ⟨rfl, rfl⟩
  · subst h
    rw [dgs_n n hn h0]
    refine gJ6_stringSize_0f7a4_0 (fun c1 => ?_) (fun c1 => absurd (tng n hn h0).1 c1)
    refine sz_16 hn ?_
    rw [m_p1]
    exact ⟨rfl, rfl⟩
theorem sm_len {x : Int32} : (dNum x).length ≤ 4 := dNum_len x
theorem sm_f {x : Int32} (h : sm x) : ∀ i, i < (dNum x).length → cF ((dNum x).getD i 0) := by
  intro i hi
  obtain ⟨n, hn, h | ⟨h, h0⟩⟩ := h
  · subst h; exact dgs_f n hn i hi
  · subst h; exact dgs_g n hn i hi
theorem dX_wr {s p0 p m : Nat} {w0 w w3 : mH} {L l : List Int32} {y : Int32} (h : dX s p0 w0 w L p m) (W : wrB w w3 p (L.length + l.length) l) (hf : ∀ i, i < l.length → cF (l.getD i 0)) (hl : L.length + l.length ≤ m) (hy : y = nI (L.length + l.length)) : dS s p0 w0 (sfi w3 s 3 y) (L ++ l) := by
  obtain ⟨hF, s0, s1, b1, b2, b3, b4, b5, b6, b7, b8, b9, b10, b11, b12, b13⟩ := h
  obtain ⟨⟨g1, g2, g3, g4, g5, g6, g7⟩, g8, g9, g10, g11⟩ := W
  subst hy
  rw [Nat.add_sub_cancel] at g10 g11
  refine ⟨p, m, ⟨?_, fun q hq => ?_⟩, s0, s1, ?_, ?_, ?_, b4, ?_, ?_, ?_, fun i hi => ?_, fun i hi => ?_, b10, ?_, b12, fun i hi => ?_⟩
  · show hN w0 ≤ hN w3; rw [g1]; exact hF.1
  · obtain ⟨f1, f2, f3, f4, f5, f6⟩ := hF.2 q hq
    refine ⟨?_, fun hs => ⟨?_, ?_⟩, fun hp => ?_, ?_, ?_, ?_⟩
    · show hk w3 q = _; rw [g2]; exact f1
    · show up2 (hfi w3) s 3 _ q = _; rw [up2_a _ _ _ hs, g3]; exact (f2 hs).1
    · show hfr w3 q = _; rw [g5]; exact (f2 hs).2
    · show hai w3 q = _
      rw [g8 q (by rcases b10 with e | e; rw [e]; exact hp; omega)]; exact f3 hp
    · show hfl w3 q = _; rw [g4]; exact f4
    · show hal w3 q = _; rw [g6]; exact f5
    · show har w3 q = _; rw [g7]; exact f6
  · show hk w3 s = _; rw [g2]; exact b1
  · show hfr w3 s 0 = _; rw [g5]; exact b2
  · show hk w3 p = _; rw [g2]; exact b3
  · show up2 (hfi w3) s 3 _ s 1 = _; rw [up2_k _ _ _ (by decide), g3]; exact b5
  · rw [List.length_append]; exact up2_at _ _ _ _
  · rw [List.length_append]; exact hl
  · show hai w3 p i = _
    rw [List.length_append] at hi
    by_cases q : i < L.length
    · rw [g11 i (Or.inl q), b8 i q, List.getD_eq_getElem?_getD, List.getD_eq_getElem?_getD, List.getElem?_append_left q]
    · have e := g10 (i - L.length) (by omega)
      rw [show L.length + (i - L.length) = i from by omega] at e
      rw [e, List.getD_eq_getElem?_getD, List.getD_eq_getElem?_getD, List.getElem?_append_right (by omega)]
  · show bF (hai w3 p i)
    by_cases q : i < L.length
    · rw [g11 i (Or.inl q)]; exact b9 i hi
    · by_cases q2 : i < L.length + l.length
      · have e := g10 (i - L.length) (by omega)
        rw [show L.length + (i - L.length) = i from by omega] at e
        rw [e]; exact cF_b (hf _ (by omega))
      · rw [g11 i (Or.inr (by omega))]; exact b9 i hi
  · show p < hN w3; rw [g1]; exact b11
  · rw [List.length_append] at hi
    by_cases q : i < L.length
    · rw [List.getD_eq_getElem?_getD, List.getElem?_append_left q, ← List.getD_eq_getElem?_getD]; exact b13 i q
    · rw [List.getD_eq_getElem?_getD, List.getElem?_append_right (by omega), ← List.getD_eq_getElem?_getD]; exact hf _ (by omega)
theorem isL1 {w : mH} {s : Nat} (h : hfi w s 1 = 0) : ¬ vJ5_isLatin1_aae02 w s = 0 := by
  unfold vJ5_isLatin1_aae02
  rw [h]
  decide
theorem rAI {G : mG} {s p0 : Nat} {w0 w : mH} {L : List Int32} {x : Int32} (h : dS s p0 w0 w L) (hx : sm x) (hl : L.length + (dNum x).length ≤ 142) : mC G mJ5_append_c97b9 5 1 142 [.ref s, .int x] w (mP (some (.ref s)) (fun w' => dS s p0 w0 w' (L ++ dNum x))) := by
  obtain ⟨p, m, hX⟩ := h
  have hln := dNum_len x
  refine mC_of (by decide +kernel) rfl (Nat.le_of_ble_eq_true rfl) rfl ?_
  refine gJ5_append_c97b9_0 hX.2.2.2.1 (mC_i (rSZ hx) ?_)
  refine mW_loc [1, 2, 0] (lv2 := [(0, .ref s), (1, .int x), (2, _)]) rfl ?_
  refine gJ5_append_c97b9_10 hX.2.2.2.1 ?_
  rw [hX.2.2.2.2.2.2.2.2.1, nI_ad]
  refine mC_mono (fun o w' ho => ?_) (rEns hX (by omega) hl)
  obtain ⟨ho, p', m', X', hm'⟩ := ho
  refine ⟨ho, ?_⟩
  refine mW_loc [1, 2, 3, 0] (lv2 := [(0, .ref s), (1, .int x), (2, _), (3, _)]) rfl ?_
  obtain ⟨hF, s0, s1, b1, b2, b3, b4, b5, b6, b7, b8, b9, b10, b11, b12, b13⟩ := id X'
  refine gJ5_append_c97b9_17 b1 b2 (fun c => absurd c (isL1 b5)) (fun c1 => ?_)
  refine mC_mono (fun o2 w3 ho2 => ?_) (rGC b3 hm' (by omega) hx (by omega))
  obtain ⟨⟨r, ho2⟩, W⟩ := ho2
  refine ⟨r, ho2, ?_⟩
  refine gJ5_append_c97b9_33 (by rw [W.1.2.1]; exact b1) (fun w4 e4 => ?_)
  subst e4
  exact mP_of (dX_wr X' W (sm_f hx) hm' rfl)
theorem rAC {G : mG} {s p0 k : Nat} {w0 w : mH} {L : List Int32} (h : dS s p0 w0 w L) (hx : k < 128) (hl : L.length + 1 ≤ 142) : mC G mJ5_append_3fe6f 5 1 142 [.ref s, .int (nI k)] w (mP (some (.ref s)) (fun w' => dS s p0 w0 w' (L ++ [nI k]))) := by
  obtain ⟨p, m, hX⟩ := h
  refine mC_of (by decide +kernel) rfl (Nat.le_of_ble_eq_true rfl) rfl ?_
  refine gJ5_append_3fe6f_0 hX.2.2.2.1 ?_
  rw [hX.2.2.2.2.2.2.2.2.1, m_p1]
  refine mC_mono (fun o w' ho => ?_) (rEns hX (by omega) hl)
  obtain ⟨ho, p', m', X', hm'⟩ := ho
  refine ⟨ho, ?_⟩
  obtain ⟨hF, s0, s1, b1, b2, b3, b4, b5, b6, b7, b8, b9, b10, b11, b12, b13⟩ := id X'
  refine gJ5_append_3fe6f_10 b1 b2 b3 (fun c1 c2 w1 e1 => ?_) (fun c => absurd c (isL1 b5)) (fun c1 c2 => absurd c2 (ten k hx)) (fun c1 c2 w1 e1 w2 e2 => ?_)
  · rw [b6]; exact m_vp (by omega) (by omega)
  · rw [b6, m_cl (by omega), tch k hx] at e2
    rw [b6, m_p1] at e1
    subst e1
    subst e2
    exact mP_of (dX_wr (w3 := sai w' p' L.length (nI k)) (l := [nI k]) X' (wrB_c wrB_0 (by show 0 + 1 ≤ L.length + 1; omega) rfl) (fun i hi => by rw [show i = 0 from by have : i < 1 := hi; omega]; exact cF_n hx) hm' rfl)
theorem rJI {G : mG} {s p0 : Nat} {w0 w : mH} {L : List Int32} {x : Int32} (h : dS s p0 w0 w L) (hx : sm x) (hl : L.length + (dNum x).length ≤ 142) : mC G mJ4_append_bf812 6 1 142 [.ref s, .int x] w (mP (some (.ref s)) (fun w' => dS s p0 w0 w' (L ++ dNum x))) := by
  refine mC_of (by decide +kernel) rfl (Nat.le_of_ble_eq_true rfl) rfl ?_
  obtain ⟨p, m, hX⟩ := id h
  refine gJ4_append_bf812_0 hX.2.2.2.1 ?_
  refine mC_mono (fun o w' ho => ?_) (rAI h hx hl)
  exact ⟨_, ho.1, gJ4_append_bf812_5 (mP_of ho.2)⟩
theorem rJC {G : mG} {s p0 k : Nat} {w0 w : mH} {L : List Int32} (h : dS s p0 w0 w L) (hx : k < 128) (hl : L.length + 1 ≤ 142) : mC G mJ4_append_cf468 6 1 142 [.ref s, .int (nI k)] w (mP (some (.ref s)) (fun w' => dS s p0 w0 w' (L ++ [nI k]))) := by
  refine mC_of (by decide +kernel) rfl (Nat.le_of_ble_eq_true rfl) rfl ?_
  obtain ⟨p, m, hX⟩ := id h
  refine gJ4_append_cf468_0 hX.2.2.2.1 ?_
  refine mC_mono (fun o w' ho => ?_) (rAC h hx hl)
  exact ⟨_, ho.1, gJ4_append_cf468_5 (mP_of ho.2)⟩
