abbrev mJ5_length_8abf5 : mM := (yJ5_length_8abf5, cJ5_length_8abf5, 1, (some .int), [])
set_option maxHeartbeats 4000000 in
set_option maxRecDepth 100000 in
theorem qJ5_length_8abf5 {G : mG} {w : mH} {a0 : Nat} (h1 : hk w a0 = (12, 0)) : mC G mJ5_length_8abf5 3 0 0 [.ref a0] w (mEq (.inl (some (.int (hfi w a0 3)))) w) := by
  refine mC_of (by decide +kernel) rfl (Nat.le_of_ble_eq_true rfl) rfl ?_
  refine mW_aload_n (j := 0) dJ5_length_8abf5_0 rfl rfl ?_
  refine mW_get dJ5_length_8abf5_1 f_J5_79 h1 rfl ?_
  exact mW_iret dJ5_length_8abf5_4 rfl (⟨by first | with_reducible rfl | (simp only []; done) | rfl, by first | with_reducible rfl | (simp only []; done) | rfl⟩)
abbrev mJ4_length_8abf5 : mM := (yJ4_length_8abf5, cJ4_length_8abf5, 1, (some .int), [])
theorem u1209 : (Cond.code ⟨"java/lang/AbstractStringBuilder", "length", "()I"⟩ prog_15_method_6_code 1 (some .int) : Cond) ∈ mTs := mTs_in 1209 (by decide +kernel) (by decide +kernel)
theorem co_J5_length_8abf5 : mCode mJ5_length_8abf5 := ⟨u1209, u77, by decide⟩
theorem u1208 : (Cond.methodLink "java/lang/StringBuilder" 343 ⟨"java/lang/AbstractStringBuilder", "length", "()I"⟩ : Cond) ∈ mTs := mTs_in 1208 (by decide +kernel) (by decide +kernel)
theorem u1203 : (Cond.instanceMethod ⟨"java/lang/AbstractStringBuilder", "length", "()I"⟩ : Cond) ∈ mTs := mTs_in 1203 (by decide +kernel) (by decide +kernel)
theorem u1204 : (Cond.sameMethod "java/lang/AbstractStringBuilder" "java/lang/AbstractStringBuilder" "length" "()I" : Cond) ∈ mTs := mTs_in 1204 (by decide +kernel) (by decide +kernel)
theorem l_J4_343 : mLinkSU "java/lang/StringBuilder" 343 0 mJ5_length_8abf5 := ⟨⟨by decide, by decide, by decide +kernel⟩, co_J5_length_8abf5, u1208, u1203, u1204, u310, by decide⟩
set_option maxHeartbeats 4000000 in
set_option maxRecDepth 100000 in
theorem qJ4_length_8abf5 {G : mG} {w : mH} {a0 : Nat} (h1 : hk w a0 = (12, 0)) : mC G mJ4_length_8abf5 4 0 0 [.ref a0] w (mEq (.inl (some (.int (hfi w a0 3)))) w) := by
  refine mC_of (by decide +kernel) rfl (Nat.le_of_ble_eq_true rfl) rfl ?_
  refine mW_aload_n (j := 0) dJ4_length_8abf5_0 rfl rfl ?_
  refine mW_callSUe (As := []) (rest := []) (kc2 := 0) (ks2 := 0) dJ4_length_8abf5_1 l_J4_343 rfl h1 rfl (by decide) (qJ5_length_8abf5 (w := w) (a0 := a0) h1) (Nat.le_of_ble_eq_true rfl) (by decide) rfl rfl ?_
  exact mW_iret dJ4_length_8abf5_4 rfl (⟨by first | with_reducible rfl | (simp only []; done) | rfl, by first | with_reducible rfl | (simp only []; done) | rfl⟩)
abbrev mX7_separate : mM := (yX7_separate, cX7_separate, 1, none, [])
theorem u1207 : (Cond.code ⟨"java/lang/StringBuilder", "length", "()I"⟩ prog_32_method_93_code 1 (some .int) : Cond) ∈ mTs := mTs_in 1207 (by decide +kernel) (by decide +kernel)
theorem u78 : (Cond.initialized "java/lang/StringBuilder" : Cond) ∈ mTs := mTs_in 78 (by decide +kernel) (by decide +kernel)
theorem co_J4_length_8abf5 : mCode mJ4_length_8abf5 := ⟨u1207, u78, by decide⟩
theorem u1306 : (Cond.methodLink "LineFollowerBench$Track" 58 ⟨"java/lang/StringBuilder", "length", "()I"⟩ : Cond) ∈ mTs := mTs_in 1306 (by decide +kernel) (by decide +kernel)
theorem u1206 : (Cond.instanceMethod ⟨"java/lang/StringBuilder", "length", "()I"⟩ : Cond) ∈ mTs := mTs_in 1206 (by decide +kernel) (by decide +kernel)
theorem u1997 : (Cond.selects "java/lang/StringBuilder" ⟨"java/lang/StringBuilder", "length", "()I"⟩ ⟨"java/lang/StringBuilder", "length", "()I"⟩ : Cond) ∈ mTs := mTs_in 1997 (by decide +kernel) (by decide +kernel)
theorem l_X7_58 : mLinkV "LineFollowerBench$Track" 58 0 mJ4_length_8abf5 := ⟨⟨by decide, by decide, by decide +kernel⟩, co_J4_length_8abf5, u1306, u1206, u1997⟩
theorem u1310 : (Cond.code ⟨"java/lang/StringBuilder", "append", "(C)Ljava/lang/StringBuilder;"⟩ prog_32_method_14_code 2 (some (.object "java/lang/StringBuilder")) : Cond) ∈ mTs := mTs_in 1310 (by decide +kernel) (by decide +kernel)
theorem co_J4_append_cf468 : mCode mJ4_append_cf468 := ⟨u1310, u78, by decide⟩
theorem u1307 : (Cond.methodLink "LineFollowerBench$Track" 49 ⟨"java/lang/StringBuilder", "append", "(C)Ljava/lang/StringBuilder;"⟩ : Cond) ∈ mTs := mTs_in 1307 (by decide +kernel) (by decide +kernel)
theorem u1308 : (Cond.instanceMethod ⟨"java/lang/StringBuilder", "append", "(C)Ljava/lang/StringBuilder;"⟩ : Cond) ∈ mTs := mTs_in 1308 (by decide +kernel) (by decide +kernel)
theorem u1309 : (Cond.selects "java/lang/StringBuilder" ⟨"java/lang/StringBuilder", "append", "(C)Ljava/lang/StringBuilder;"⟩ ⟨"java/lang/StringBuilder", "append", "(C)Ljava/lang/StringBuilder;"⟩ : Cond) ∈ mTs := mTs_in 1309 (by decide +kernel) (by decide +kernel)
theorem l_X7_49 : mLinkV "LineFollowerBench$Track" 49 1 mJ4_append_cf468 := ⟨⟨by decide, by decide, by decide +kernel⟩, co_J4_append_cf468, u1307, u1308, u1309⟩
set_option maxHeartbeats 4000000 in
set_option maxRecDepth 100000 in
theorem gX7_separate_0 {G : mG} {w : mH} {Φ : mF} {a0 : Nat} (h1 : hk w a0 = (12, 0)) (k1 : ((hfi w a0 3) ≤ 0) → Φ (.inl none) w) (k2 : (¬ ((hfi w a0 3) ≤ 0)) → mC G mJ4_append_cf468 6 1 142 [.ref a0, .int 59] w (mRr G mX7_separate 7 0 0 13 [(0, .ref a0)] [] Φ)) : mW G mX7_separate 7 1 142 0 [(0, .ref a0)] [] w Φ := by
  refine mW_aload_n (j := 0) dX7_separate_0 rfl rfl ?_
  refine mW_callVe (As := []) (rest := []) (kc2 := 1) (ks2 := 142) dX7_separate_1 l_X7_58 rfl h1 rfl (by decide) (qJ4_length_8abf5 (w := w) (a0 := a0) h1) (Nat.le_of_ble_eq_true rfl) (by decide) rfl rfl ?_
  refine mW_if_le (tgt := 14) dX7_separate_4 (by decide) (fun c1 => ?_) (fun c1 => ?_)
  · exact mW_vret dX7_separate_14 rfl (k1 c1)
  · refine mW_aload_n (j := 0) dX7_separate_7 rfl rfl ?_
    refine mW_bipush (v := 59) dX7_separate_8 (by decide) ?_
    refine mW_callV (As := [.int 59]) (rest := []) (kc2 := 0) (ks2 := 0) dX7_separate_10 l_X7_49 rfl h1 rfl (by decide) (k2 c1) (Nat.le_of_ble_eq_true rfl) (by decide) rfl rfl mRrx mRrk
set_option maxHeartbeats 4000000 in
set_option maxRecDepth 100000 in
theorem gX7_separate_13 {G : mG} {w : mH} {Φ : mF} {a0 a_0 : Nat}  (k1 : Φ (.inl none) w) : mW G mX7_separate 7 0 0 13 [(0, .ref a0)] [.ref a_0] w Φ := by
  refine mW_pop dX7_separate_13 rfl ?_
  exact mW_vret dX7_separate_14 rfl (k1)
abbrev mX7_writeTo : mM := (yX7_writeTo, cX7_writeTo, 3, none, [])
set_option maxHeartbeats 4000000 in
set_option maxRecDepth 100000 in
theorem gX7_writeTo_0 {G : mG} {kc ks : Nat} {w : mH} {Φ : mF} {a0 a1 : Nat}  (k1 : mW G mX7_writeTo 8 (kc + 1) (ks + 142) 2 [(0, .ref a0), (1, .ref a1), (2, .int 0)] [] w Φ) : mW G mX7_writeTo 8 (kc + 1) (ks + 142) 0 [(0, .ref a0), (1, .ref a1)] [] w Φ := by
  refine mW_iconst (v := 0) dX7_writeTo_0 (by decide) ?_
  refine mW_istore_n (lv2 := [(2, .int 0), (0, .ref a0), (1, .ref a1)]) dX7_writeTo_1 rfl (by decide) rfl ?_
  refine mW_loc [1, 2, 0] (lv2 := [(0, .ref a0), (1, .ref a1), (2, .int 0)]) rfl ?_
  exact k1
theorem u1305 : (Cond.code ⟨"LineFollowerBench$Track", "separate", "(Ljava/lang/StringBuilder;)V"⟩ prog_9_method_11_code 1 (none : Option ClassFile.FieldType) : Cond) ∈ mTs := mTs_in 1305 (by decide +kernel) (by decide +kernel)
theorem co_X7_separate : mCode mX7_separate := ⟨u1305, u74, by decide⟩
theorem u1303 : (Cond.methodLink "LineFollowerBench$Track" 45 ⟨"LineFollowerBench$Track", "separate", "(Ljava/lang/StringBuilder;)V"⟩ : Cond) ∈ mTs := mTs_in 1303 (by decide +kernel) (by decide +kernel)
theorem u1304 : (Cond.static ⟨"LineFollowerBench$Track", "separate", "(Ljava/lang/StringBuilder;)V"⟩ : Cond) ∈ mTs := mTs_in 1304 (by decide +kernel) (by decide +kernel)
theorem l_X7_45 : mLinkS "LineFollowerBench$Track" 45 1 mX7_separate := ⟨⟨by decide, by decide, by decide +kernel⟩, co_X7_separate, u1303, u1304⟩
set_option maxHeartbeats 4000000 in
set_option maxRecDepth 100000 in
theorem gX7_writeTo_2 {G : mG} {kc ks : Nat} {w : mH} {Φ : mF} {a0 a1 : Nat} {x2 : Int32} (h1 : hk w a0 = (7, 0)) (k1 : ((hfi w a0 3) ≤ x2) → mW G mX7_writeTo 8 (kc + 1) (ks + 142) 98 [(0, .ref a0), (1, .ref a1), (2, .int 0)] [] w Φ) (k2 : (¬ ((hfi w a0 3) ≤ x2)) → (8 ≤ x2) → mW G mX7_writeTo 8 (kc + 1) (ks + 142) 98 [(0, .ref a0), (1, .ref a1), (2, .int 0)] [] w Φ) (k3 : (¬ ((hfi w a0 3) ≤ x2)) → (¬ (8 ≤ x2)) → mC G mX7_separate 7 1 142 [.ref a1] w (mRv G mX7_writeTo 8 kc ks 20 [(0, .ref a0), (1, .ref a1), (2, .int x2)] [] Φ)) : mW G mX7_writeTo 8 (kc + 1) (ks + 142) 2 [(0, .ref a0), (1, .ref a1), (2, .int x2)] [] w Φ := by
  refine mW_iload_n (j := 2) dX7_writeTo_2 rfl rfl ?_
  refine mW_aload_n (j := 0) dX7_writeTo_3 rfl rfl ?_
  refine mW_get dX7_writeTo_4 f_X7_21 h1 rfl ?_
  refine mW_icmp_ge (tgt := 96) dX7_writeTo_7 (by decide) (fun c1 => ?_) (fun c1 => ?_)
  · refine mW_iconst (v := 0) dX7_writeTo_96 (by decide) ?_
    refine mW_istore_n (lv2 := [(2, .int 0), (0, .ref a0), (1, .ref a1)]) dX7_writeTo_97 rfl (by decide) rfl ?_
    refine mW_loc [1, 2, 0] (lv2 := [(0, .ref a0), (1, .ref a1), (2, .int 0)]) rfl ?_
    exact k1 c1
  · refine mW_iload_n (j := 2) dX7_writeTo_10 rfl rfl ?_
    refine mW_bipush (v := 8) dX7_writeTo_11 (by decide) ?_
    refine mW_icmp_ge (tgt := 96) dX7_writeTo_13 (by decide) (fun c2 => ?_) (fun c2 => ?_)
    · refine mW_iconst (v := 0) dX7_writeTo_96 (by decide) ?_
      refine mW_istore_n (lv2 := [(2, .int 0), (0, .ref a0), (1, .ref a1)]) dX7_writeTo_97 rfl (by decide) rfl ?_
      refine mW_loc [1, 2, 0] (lv2 := [(0, .ref a0), (1, .ref a1), (2, .int 0)]) rfl ?_
      exact k2 c1 c2
    · refine mW_aload_n (j := 1) dX7_writeTo_16 rfl rfl ?_
      refine mW_callS (As := [.ref a1]) (rest := []) (kc2 := kc) (ks2 := ks) dX7_writeTo_17 l_X7_45 rfl (k3 c1 c2) (Nat.le_of_ble_eq_true rfl) (by decide) (Nat.add_comm _ _) (Nat.add_comm _ _) mRvx mRvk
set_option maxHeartbeats 4000000 in
set_option maxRecDepth 100000 in
theorem gX7_writeTo_20 {G : mG} {kc ks : Nat} {w : mH} {Φ : mF} {a0 a1 : Nat} {x2 : Int32} {a0_0 n_a0_0 : Nat} (h1 : hk w a0 = (7, 0)) (h2 : hfr w a0 0 = some a0_0) (h3 : hk w a0_0 = (16, n_a0_0)) (s1 : vp_in x2 n_a0_0) (h4 : hk w a1 = (12, 0)) (k1 : (¬ ((hai w a0_0 x2.toNatClampNeg) = 0)) → (¬ ((hai w a0_0 x2.toNatClampNeg) = 1)) → mC G mJ4_append_cf468 6 1 142 [.ref a1, .int 114] w (mRr G mX7_writeTo 8 kc ks 55 [(0, .ref a0), (1, .ref a1), (2, .int x2)] [] Φ)) (k2 : (¬ ((hai w a0_0 x2.toNatClampNeg) = 0)) → ((hai w a0_0 x2.toNatClampNeg) = 1) → mC G mJ4_append_cf468 6 1 142 [.ref a1, .int 98] w (mRr G mX7_writeTo 8 kc ks 55 [(0, .ref a0), (1, .ref a1), (2, .int x2)] [] Φ)) (k3 : ((hai w a0_0 x2.toNatClampNeg) = 0) → mC G mJ4_append_cf468 6 1 142 [.ref a1, .int 115] w (mRr G mX7_writeTo 8 kc ks 55 [(0, .ref a0), (1, .ref a1), (2, .int x2)] [] Φ)) : mW G mX7_writeTo 8 (kc + 1) (ks + 142) 20 [(0, .ref a0), (1, .ref a1), (2, .int x2)] [] w Φ := by
  refine mW_aload_n (j := 1) dX7_writeTo_20 rfl rfl ?_
  refine mW_aload_n (j := 0) dX7_writeTo_21 rfl rfl ?_
  refine mW_getR dX7_writeTo_22 f_X7_9 h1 rfl h2 ?_
  refine mW_iload_n (j := 2) dX7_writeTo_25 rfl rfl ?_
  refine mW_ialdJ dX7_writeTo_26 h3 s1 rfl ?_
  refine mW_if_ne (tgt := 35) dX7_writeTo_27 (by decide) (fun c1 => ?_) (fun c1 => ?_)
  · refine mW_aload_n (j := 0) dX7_writeTo_35 rfl rfl ?_
    refine mW_getR dX7_writeTo_36 f_X7_9 h1 rfl h2 ?_
    refine mW_iload_n (j := 2) dX7_writeTo_39 rfl rfl ?_
    refine mW_ialdJ dX7_writeTo_40 h3 s1 rfl ?_
    refine mW_iconst (v := 1) dX7_writeTo_41 (by decide) ?_
    refine mW_icmp_ne (tgt := 50) dX7_writeTo_42 (by decide) (fun c2 => ?_) (fun c2 => ?_)
    · refine mW_bipush (v := 114) dX7_writeTo_50 (by decide) ?_
      refine mW_callV (As := [.int 114]) (rest := []) (kc2 := kc) (ks2 := ks) dX7_writeTo_52 l_X7_49 rfl h4 rfl (by decide) (k1 c1 c2) (Nat.le_of_ble_eq_true rfl) (by decide) (Nat.add_comm _ _) (Nat.add_comm _ _) mRrx mRrk
    · refine mW_bipush (v := 98) dX7_writeTo_45 (by decide) ?_
      refine mW_goto (tgt := 52) dX7_writeTo_47 (by decide) ?_
      refine mW_callV (As := [.int 98]) (rest := []) (kc2 := kc) (ks2 := ks) dX7_writeTo_52 l_X7_49 rfl h4 rfl (by decide) (k2 c1 c2) (Nat.le_of_ble_eq_true rfl) (by decide) (Nat.add_comm _ _) (Nat.add_comm _ _) mRrx mRrk
  · refine mW_bipush (v := 115) dX7_writeTo_30 (by decide) ?_
    refine mW_goto (tgt := 52) dX7_writeTo_32 (by decide) ?_
    refine mW_callV (As := [.int 115]) (rest := []) (kc2 := kc) (ks2 := ks) dX7_writeTo_52 l_X7_49 rfl h4 rfl (by decide) (k3 c1) (Nat.le_of_ble_eq_true rfl) (by decide) (Nat.add_comm _ _) (Nat.add_comm _ _) mRrx mRrk
theorem u1162 : (Cond.code ⟨"java/lang/StringBuilder", "append", "(I)Ljava/lang/StringBuilder;"⟩ prog_32_method_15_code 2 (some (.object "java/lang/StringBuilder")) : Cond) ∈ mTs := mTs_in 1162 (by decide +kernel) (by decide +kernel)
theorem co_J4_append_bf812 : mCode mJ4_append_bf812 := ⟨u1162, u78, by decide⟩
theorem u1329 : (Cond.methodLink "LineFollowerBench$Track" 55 ⟨"java/lang/StringBuilder", "append", "(I)Ljava/lang/StringBuilder;"⟩ : Cond) ∈ mTs := mTs_in 1329 (by decide +kernel) (by decide +kernel)
theorem u1160 : (Cond.instanceMethod ⟨"java/lang/StringBuilder", "append", "(I)Ljava/lang/StringBuilder;"⟩ : Cond) ∈ mTs := mTs_in 1160 (by decide +kernel) (by decide +kernel)
theorem u1161 : (Cond.selects "java/lang/StringBuilder" ⟨"java/lang/StringBuilder", "append", "(I)Ljava/lang/StringBuilder;"⟩ ⟨"java/lang/StringBuilder", "append", "(I)Ljava/lang/StringBuilder;"⟩ : Cond) ∈ mTs := mTs_in 1161 (by decide +kernel) (by decide +kernel)
theorem l_X7_55 : mLinkV "LineFollowerBench$Track" 55 1 mJ4_append_bf812 := ⟨⟨by decide, by decide, by decide +kernel⟩, co_J4_append_bf812, u1329, u1160, u1161⟩
set_option maxHeartbeats 4000000 in
set_option maxRecDepth 100000 in
theorem gX7_writeTo_55 {G : mG} {kc ks : Nat} {w : mH} {Φ : mF} {a0 a1 : Nat} {x2 : Int32} {a_0 a0_1 n_a0_1 : Nat} (h1 : hk w a0 = (7, 0)) (h2 : hfr w a0 1 = some a0_1) (h3 : hk w a0_1 = (16, n_a0_1)) (s1 : vp_in x2 n_a0_1) (h4 : hk w a_0 = (12, 0)) (k1 : mC G mJ4_append_bf812 6 1 142 [.ref a_0, .int (hai w a0_1 x2.toNatClampNeg)] w (mRr G mX7_writeTo 8 kc ks 64 [(0, .ref a0), (1, .ref a1), (2, .int x2)] [] Φ)) : mW G mX7_writeTo 8 (kc + 1) (ks + 142) 55 [(0, .ref a0), (1, .ref a1), (2, .int x2)] [.ref a_0] w Φ := by
  refine mW_aload_n (j := 0) dX7_writeTo_55 rfl rfl ?_
  refine mW_getR dX7_writeTo_56 f_X7_15 h1 rfl h2 ?_
  refine mW_iload_n (j := 2) dX7_writeTo_59 rfl rfl ?_
  refine mW_ialdJ dX7_writeTo_60 h3 s1 rfl ?_
  refine mW_callV (As := [.int (hai w a0_1 x2.toNatClampNeg)]) (rest := []) (kc2 := kc) (ks2 := ks) dX7_writeTo_61 l_X7_55 rfl h4 rfl (by decide) (k1) (Nat.le_of_ble_eq_true rfl) (by decide) (Nat.add_comm _ _) (Nat.add_comm _ _) mRrx mRrk
set_option maxHeartbeats 4000000 in
set_option maxRecDepth 100000 in
theorem gX7_writeTo_64 {G : mG} {kc ks : Nat} {w : mH} {Φ : mF} {a0 a1 : Nat} {x2 : Int32} {a_0 a0_0 n_a0_0 : Nat} (h1 : hk w a0 = (7, 0)) (h2 : hfr w a0 0 = some a0_0) (h3 : hk w a0_0 = (16, n_a0_0)) (s1 : vp_in x2 n_a0_0) (h4 : hk w a1 = (12, 0)) (k1 : ((hai w a0_0 x2.toNatClampNeg) = 0) → mW G mX7_writeTo 8 (kc + 1) (ks + 142) 90 [(0, .ref a0), (1, .ref a1), (2, .int x2)] [] w Φ) (k2 : (¬ ((hai w a0_0 x2.toNatClampNeg) = 0)) → mC G mJ4_append_cf468 6 1 142 [.ref a1, .int 58] w (mRr G mX7_writeTo 8 kc ks 80 [(0, .ref a0), (1, .ref a1), (2, .int x2)] [] Φ)) : mW G mX7_writeTo 8 (kc + 1) (ks + 142) 64 [(0, .ref a0), (1, .ref a1), (2, .int x2)] [.ref a_0] w Φ := by
  refine mW_pop dX7_writeTo_64 rfl ?_
  refine mW_aload_n (j := 0) dX7_writeTo_65 rfl rfl ?_
  refine mW_getR dX7_writeTo_66 f_X7_9 h1 rfl h2 ?_
  refine mW_iload_n (j := 2) dX7_writeTo_69 rfl rfl ?_
  refine mW_ialdJ dX7_writeTo_70 h3 s1 rfl ?_
  refine mW_if_eq (tgt := 90) dX7_writeTo_71 (by decide) (fun c1 => ?_) (fun c1 => ?_)
  · exact k1 c1
  · refine mW_aload_n (j := 1) dX7_writeTo_74 rfl rfl ?_
    refine mW_bipush (v := 58) dX7_writeTo_75 (by decide) ?_
    refine mW_callV (As := [.int 58]) (rest := []) (kc2 := kc) (ks2 := ks) dX7_writeTo_77 l_X7_49 rfl h4 rfl (by decide) (k2 c1) (Nat.le_of_ble_eq_true rfl) (by decide) (Nat.add_comm _ _) (Nat.add_comm _ _) mRrx mRrk
set_option maxHeartbeats 4000000 in
set_option maxRecDepth 100000 in
theorem gX7_writeTo_80 {G : mG} {kc ks : Nat} {w : mH} {Φ : mF} {a0 a1 : Nat} {x2 : Int32} {a_0 a0_2 n_a0_2 : Nat} (h1 : hk w a0 = (7, 0)) (h2 : hfr w a0 2 = some a0_2) (h3 : hk w a0_2 = (16, n_a0_2)) (s1 : vp_in x2 n_a0_2) (h4 : hk w a_0 = (12, 0)) (k1 : mC G mJ4_append_bf812 6 1 142 [.ref a_0, .int (hai w a0_2 x2.toNatClampNeg)] w (mRr G mX7_writeTo 8 kc ks 89 [(0, .ref a0), (1, .ref a1), (2, .int x2)] [] Φ)) : mW G mX7_writeTo 8 (kc + 1) (ks + 142) 80 [(0, .ref a0), (1, .ref a1), (2, .int x2)] [.ref a_0] w Φ := by
  refine mW_aload_n (j := 0) dX7_writeTo_80 rfl rfl ?_
  refine mW_getR dX7_writeTo_81 f_X7_18 h1 rfl h2 ?_
  refine mW_iload_n (j := 2) dX7_writeTo_84 rfl rfl ?_
  refine mW_ialdJ dX7_writeTo_85 h3 s1 rfl ?_
  refine mW_callV (As := [.int (hai w a0_2 x2.toNatClampNeg)]) (rest := []) (kc2 := kc) (ks2 := ks) dX7_writeTo_86 l_X7_55 rfl h4 rfl (by decide) (k1) (Nat.le_of_ble_eq_true rfl) (by decide) (Nat.add_comm _ _) (Nat.add_comm _ _) mRrx mRrk
set_option maxHeartbeats 4000000 in
set_option maxRecDepth 100000 in
theorem gX7_writeTo_89 {G : mG} {kc ks : Nat} {w : mH} {Φ : mF} {a0 a1 : Nat} {x2 : Int32} {a_0 : Nat}  (k1 : mW G mX7_writeTo 8 (kc + 1) (ks + 142) 90 [(0, .ref a0), (1, .ref a1), (2, .int x2)] [] w Φ) : mW G mX7_writeTo 8 (kc + 1) (ks + 142) 89 [(0, .ref a0), (1, .ref a1), (2, .int x2)] [.ref a_0] w Φ := by
  refine mW_pop dX7_writeTo_89 rfl ?_
  exact k1
set_option maxHeartbeats 4000000 in
set_option maxRecDepth 100000 in
theorem gX7_writeTo_90 {G : mG} {kc ks : Nat} {w : mH} {Φ : mF} {a0 a1 : Nat} {x2 : Int32}  (k1 : mW G mX7_writeTo 8 (kc + 1) (ks + 142) 2 [(0, .ref a0), (1, .ref a1), (2, .int (x2 + 1))] [] w Φ) : mW G mX7_writeTo 8 (kc + 1) (ks + 142) 90 [(0, .ref a0), (1, .ref a1), (2, .int x2)] [] w Φ := by
  refine mW_iinc (j := 2) (v := x2 + 1) (lv2 := [(2, .int (x2 + 1)), (0, .ref a0), (1, .ref a1)]) dX7_writeTo_90 rfl rfl (by decide) rfl ?_
  refine mW_goto (tgt := 2) dX7_writeTo_93 (by decide) ?_
  refine mW_loc [1, 2, 0] (lv2 := [(0, .ref a0), (1, .ref a1), (2, .int (x2 + 1))]) rfl ?_
  exact k1
set_option maxHeartbeats 4000000 in
set_option maxRecDepth 100000 in
theorem gX7_writeTo_98 {G : mG} {kc ks : Nat} {w : mH} {Φ : mF} {a0 a1 : Nat} {x2 : Int32} (h1 : hk w a0 = (7, 0)) (k1 : ((hfi w a0 7) ≤ x2) → Φ (.inl none) w) (k2 : (¬ ((hfi w a0 7) ≤ x2)) → (4 ≤ x2) → Φ (.inl none) w) (k3 : (¬ ((hfi w a0 7) ≤ x2)) → (¬ (4 ≤ x2)) → mC G mX7_separate 7 1 142 [.ref a1] w (mRv G mX7_writeTo 8 kc ks 115 [(0, .ref a0), (1, .ref a1), (2, .int x2)] [] Φ)) : mW G mX7_writeTo 8 (kc + 1) (ks + 142) 98 [(0, .ref a0), (1, .ref a1), (2, .int x2)] [] w Φ := by
  refine mW_iload_n (j := 2) dX7_writeTo_98 rfl rfl ?_
  refine mW_aload_n (j := 0) dX7_writeTo_99 rfl rfl ?_
  refine mW_get dX7_writeTo_100 f_X7_34 h1 rfl ?_
  refine mW_icmp_ge (tgt := 167) dX7_writeTo_103 (by decide) (fun c1 => ?_) (fun c1 => ?_)
  · exact mW_vret dX7_writeTo_167 rfl (k1 c1)
  · refine mW_iload_n (j := 2) dX7_writeTo_106 rfl rfl ?_
    refine mW_iconst (v := 4) dX7_writeTo_107 (by decide) ?_
    refine mW_icmp_ge (tgt := 167) dX7_writeTo_108 (by decide) (fun c2 => ?_) (fun c2 => ?_)
    · exact mW_vret dX7_writeTo_167 rfl (k2 c1 c2)
    · refine mW_aload_n (j := 1) dX7_writeTo_111 rfl rfl ?_
      refine mW_callS (As := [.ref a1]) (rest := []) (kc2 := kc) (ks2 := ks) dX7_writeTo_112 l_X7_45 rfl (k3 c1 c2) (Nat.le_of_ble_eq_true rfl) (by decide) (Nat.add_comm _ _) (Nat.add_comm _ _) mRvx mRvk
set_option maxHeartbeats 4000000 in
set_option maxRecDepth 100000 in
theorem gX7_writeTo_115 {G : mG} {kc ks : Nat} {w : mH} {Φ : mF} {a0 a1 : Nat} {x2 : Int32} (h1 : hk w a1 = (12, 0)) (k1 : mC G mJ4_append_cf468 6 1 142 [.ref a1, .int 112] w (mRr G mX7_writeTo 8 kc ks 121 [(0, .ref a0), (1, .ref a1), (2, .int x2)] [] Φ)) : mW G mX7_writeTo 8 (kc + 1) (ks + 142) 115 [(0, .ref a0), (1, .ref a1), (2, .int x2)] [] w Φ := by
  refine mW_aload_n (j := 1) dX7_writeTo_115 rfl rfl ?_
  refine mW_bipush (v := 112) dX7_writeTo_116 (by decide) ?_
  refine mW_callV (As := [.int 112]) (rest := []) (kc2 := kc) (ks2 := ks) dX7_writeTo_118 l_X7_49 rfl h1 rfl (by decide) (k1) (Nat.le_of_ble_eq_true rfl) (by decide) (Nat.add_comm _ _) (Nat.add_comm _ _) mRrx mRrk
set_option maxHeartbeats 4000000 in
set_option maxRecDepth 100000 in
theorem gX7_writeTo_121 {G : mG} {kc ks : Nat} {w : mH} {Φ : mF} {a0 a1 : Nat} {x2 : Int32} {a_0 a0_4 n_a0_4 : Nat} (h1 : hk w a0 = (7, 0)) (h2 : hfr w a0 4 = some a0_4) (h3 : hk w a0_4 = (16, n_a0_4)) (s1 : vp_in x2 n_a0_4) (h4 : hk w a_0 = (12, 0)) (k1 : mC G mJ4_append_bf812 6 1 142 [.ref a_0, .int (hai w a0_4 x2.toNatClampNeg)] w (mRr G mX7_writeTo 8 kc ks 130 [(0, .ref a0), (1, .ref a1), (2, .int x2)] [] Φ)) : mW G mX7_writeTo 8 (kc + 1) (ks + 142) 121 [(0, .ref a0), (1, .ref a1), (2, .int x2)] [.ref a_0] w Φ := by
  refine mW_aload_n (j := 0) dX7_writeTo_121 rfl rfl ?_
  refine mW_getR dX7_writeTo_122 f_X7_25 h1 rfl h2 ?_
  refine mW_iload_n (j := 2) dX7_writeTo_125 rfl rfl ?_
  refine mW_ialdJ dX7_writeTo_126 h3 s1 rfl ?_
  refine mW_callV (As := [.int (hai w a0_4 x2.toNatClampNeg)]) (rest := []) (kc2 := kc) (ks2 := ks) dX7_writeTo_127 l_X7_55 rfl h4 rfl (by decide) (k1) (Nat.le_of_ble_eq_true rfl) (by decide) (Nat.add_comm _ _) (Nat.add_comm _ _) mRrx mRrk
set_option maxHeartbeats 4000000 in
set_option maxRecDepth 100000 in
theorem gX7_writeTo_130 {G : mG} {kc ks : Nat} {w : mH} {Φ : mF} {a0 a1 : Nat} {x2 : Int32} {a_0 : Nat} (h1 : hk w a_0 = (12, 0)) (k1 : mC G mJ4_append_cf468 6 1 142 [.ref a_0, .int 58] w (mRr G mX7_writeTo 8 kc ks 135 [(0, .ref a0), (1, .ref a1), (2, .int x2)] [] Φ)) : mW G mX7_writeTo 8 (kc + 1) (ks + 142) 130 [(0, .ref a0), (1, .ref a1), (2, .int x2)] [.ref a_0] w Φ := by
  refine mW_bipush (v := 58) dX7_writeTo_130 (by decide) ?_
  refine mW_callV (As := [.int 58]) (rest := []) (kc2 := kc) (ks2 := ks) dX7_writeTo_132 l_X7_49 rfl h1 rfl (by decide) (k1) (Nat.le_of_ble_eq_true rfl) (by decide) (Nat.add_comm _ _) (Nat.add_comm _ _) mRrx mRrk
set_option maxHeartbeats 4000000 in
set_option maxRecDepth 100000 in
theorem gX7_writeTo_135 {G : mG} {kc ks : Nat} {w : mH} {Φ : mF} {a0 a1 : Nat} {x2 : Int32} {a_0 a0_5 n_a0_5 : Nat} (h1 : hk w a0 = (7, 0)) (h2 : hfr w a0 5 = some a0_5) (h3 : hk w a0_5 = (16, n_a0_5)) (s1 : vp_in x2 n_a0_5) (h4 : hk w a_0 = (12, 0)) (k1 : mC G mJ4_append_bf812 6 1 142 [.ref a_0, .int (hai w a0_5 x2.toNatClampNeg)] w (mRr G mX7_writeTo 8 kc ks 144 [(0, .ref a0), (1, .ref a1), (2, .int x2)] [] Φ)) : mW G mX7_writeTo 8 (kc + 1) (ks + 142) 135 [(0, .ref a0), (1, .ref a1), (2, .int x2)] [.ref a_0] w Φ := by
  refine mW_aload_n (j := 0) dX7_writeTo_135 rfl rfl ?_
  refine mW_getR dX7_writeTo_136 f_X7_28 h1 rfl h2 ?_
  refine mW_iload_n (j := 2) dX7_writeTo_139 rfl rfl ?_
  refine mW_ialdJ dX7_writeTo_140 h3 s1 rfl ?_
  refine mW_callV (As := [.int (hai w a0_5 x2.toNatClampNeg)]) (rest := []) (kc2 := kc) (ks2 := ks) dX7_writeTo_141 l_X7_55 rfl h4 rfl (by decide) (k1) (Nat.le_of_ble_eq_true rfl) (by decide) (Nat.add_comm _ _) (Nat.add_comm _ _) mRrx mRrk
set_option maxHeartbeats 4000000 in
set_option maxRecDepth 100000 in
theorem gX7_writeTo_144 {G : mG} {kc ks : Nat} {w : mH} {Φ : mF} {a0 a1 : Nat} {x2 : Int32} {a_0 : Nat} (h1 : hk w a1 = (12, 0)) (k1 : mC G mJ4_append_cf468 6 1 142 [.ref a1, .int 42] w (mRr G mX7_writeTo 8 kc ks 151 [(0, .ref a0), (1, .ref a1), (2, .int x2)] [] Φ)) : mW G mX7_writeTo 8 (kc + 1) (ks + 142) 144 [(0, .ref a0), (1, .ref a1), (2, .int x2)] [.ref a_0] w Φ := by
  refine mW_pop dX7_writeTo_144 rfl ?_
  refine mW_aload_n (j := 1) dX7_writeTo_145 rfl rfl ?_
  refine mW_bipush (v := 42) dX7_writeTo_146 (by decide) ?_
  refine mW_callV (As := [.int 42]) (rest := []) (kc2 := kc) (ks2 := ks) dX7_writeTo_148 l_X7_49 rfl h1 rfl (by decide) (k1) (Nat.le_of_ble_eq_true rfl) (by decide) (Nat.add_comm _ _) (Nat.add_comm _ _) mRrx mRrk
set_option maxHeartbeats 4000000 in
set_option maxRecDepth 100000 in
theorem gX7_writeTo_151 {G : mG} {kc ks : Nat} {w : mH} {Φ : mF} {a0 a1 : Nat} {x2 : Int32} {a_0 a0_6 n_a0_6 : Nat} (h1 : hk w a0 = (7, 0)) (h2 : hfr w a0 6 = some a0_6) (h3 : hk w a0_6 = (16, n_a0_6)) (s1 : vp_in x2 n_a0_6) (h4 : hk w a_0 = (12, 0)) (k1 : mC G mJ4_append_bf812 6 1 142 [.ref a_0, .int (hai w a0_6 x2.toNatClampNeg)] w (mRr G mX7_writeTo 8 kc ks 160 [(0, .ref a0), (1, .ref a1), (2, .int x2)] [] Φ)) : mW G mX7_writeTo 8 (kc + 1) (ks + 142) 151 [(0, .ref a0), (1, .ref a1), (2, .int x2)] [.ref a_0] w Φ := by
  refine mW_aload_n (j := 0) dX7_writeTo_151 rfl rfl ?_
  refine mW_getR dX7_writeTo_152 f_X7_31 h1 rfl h2 ?_
  refine mW_iload_n (j := 2) dX7_writeTo_155 rfl rfl ?_
  refine mW_ialdJ dX7_writeTo_156 h3 s1 rfl ?_
  refine mW_callV (As := [.int (hai w a0_6 x2.toNatClampNeg)]) (rest := []) (kc2 := kc) (ks2 := ks) dX7_writeTo_157 l_X7_55 rfl h4 rfl (by decide) (k1) (Nat.le_of_ble_eq_true rfl) (by decide) (Nat.add_comm _ _) (Nat.add_comm _ _) mRrx mRrk
set_option maxHeartbeats 4000000 in
set_option maxRecDepth 100000 in
theorem gX7_writeTo_160 {G : mG} {kc ks : Nat} {w : mH} {Φ : mF} {a0 a1 : Nat} {x2 : Int32} {a_0 : Nat}  (k1 : mW G mX7_writeTo 8 (kc + 1) (ks + 142) 161 [(0, .ref a0), (1, .ref a1), (2, .int x2)] [] w Φ) : mW G mX7_writeTo 8 (kc + 1) (ks + 142) 160 [(0, .ref a0), (1, .ref a1), (2, .int x2)] [.ref a_0] w Φ := by
  refine mW_pop dX7_writeTo_160 rfl ?_
  exact k1
set_option maxHeartbeats 4000000 in
set_option maxRecDepth 100000 in
theorem gX7_writeTo_161 {G : mG} {kc ks : Nat} {w : mH} {Φ : mF} {a0 a1 : Nat} {x2 : Int32}  (k1 : mW G mX7_writeTo 8 (kc + 1) (ks + 142) 98 [(0, .ref a0), (1, .ref a1), (2, .int (x2 + 1))] [] w Φ) : mW G mX7_writeTo 8 (kc + 1) (ks + 142) 161 [(0, .ref a0), (1, .ref a1), (2, .int x2)] [] w Φ := by
  refine mW_iinc (j := 2) (v := x2 + 1) (lv2 := [(2, .int (x2 + 1)), (0, .ref a0), (1, .ref a1)]) dX7_writeTo_161 rfl rfl (by decide) rfl ?_
  refine mW_goto (tgt := 98) dX7_writeTo_164 (by decide) ?_
  refine mW_loc [1, 2, 0] (lv2 := [(0, .ref a0), (1, .ref a1), (2, .int (x2 + 1))]) rfl ?_
  exact k1
theorem mW_more {G : mG} {M : mM} {d kc ks kc2 ks2 pc : Nat} {lv : List (Nat × Value)} {st : List Value} {w : mH} {Φ : mF} (h1 : kc ≤ kc2) (h2 : ks ≤ ks2) (k : mW G M d kc ks pc lv st w Φ) : mW G M d kc2 ks2 pc lv st w Φ := fun p l e R s m args below meth c H locs cells slots mc ms ls X a b => k p l e R s m args below meth c H locs cells slots mc ms ls X (by omega) (by omega)
/-- the track at t in the world w: n segments, m pushes of the row A -/
def kF (t : Nat) (w : mH) (A : Nat → Int32) (n m : Nat) : Prop := zTrk w t ∧ n ≤ 8 ∧ m ≤ 4 ∧ hfi w t 3 = nI n ∧ hfi w t 7 = nI m ∧ (∀ i, i < n → hai w (t + 1) i = A (41 + 3 * i) ∧ hai w (t + 2) i = A (42 + 3 * i) ∧ hai w (t + 3) i = A (43 + 3 * i)) ∧ ∀ i, i < m → hai w (t + 4) i = A (66 + 3 * i) ∧ hai w (t + 5) i = A (67 + 3 * i) ∧ hai w (t + 6) i = A (68 + 3 * i)
def kS (t s p0 : Nat) (w0 : mH) : Prop := t + 7 ≤ hN w0 ∧ (s < t ∨ t + 7 ≤ s) ∧ (p0 < t ∨ t + 7 ≤ p0)
theorem kF_d {t s p0 n m : Nat} {w0 w : mH} {A : Nat → Int32} (S : kS t s p0 w0) (d : dF s p0 w0 w) (z : kF t w0 A n m) : kF t w A n m := by
  obtain ⟨s1, s2, s3⟩ := S
  have e1 : ∀ q, t ≤ q ∧ q < t + 7 → hk w q = hk w0 q := fun q hq => (d.2 q (by omega)).1
  have e2 : ∀ q, t ≤ q ∧ q < t + 7 → hfi w q = hfi w0 q := fun q hq => ((d.2 q (by omega)).2.1 (by omega)).1
  have e3 : ∀ q, t ≤ q ∧ q < t + 7 → hfr w q = hfr w0 q := fun q hq => ((d.2 q (by omega)).2.1 (by omega)).2
  have e4 : ∀ q, t ≤ q ∧ q < t + 7 → hai w q = hai w0 q := fun q hq => (d.2 q (by omega)).2.2.1 (by omega)
  unfold kF zTrk at z ⊢
  simp (disch := omega) only [e1, e2, e3, e4]
  exact z
/-- the numbers of a row's track -/
def kN (A : Nat → Int32) (n m : Nat) : Prop := (∀ i, i < n → (sm (A (42 + 3 * i)) ∧ (dNum (A (42 + 3 * i))).length ≤ 3) ∧ sm (A (43 + 3 * i))) ∧ ∀ i, i < m → (sm (A (66 + 3 * i)) ∧ (dNum (A (66 + 3 * i))).length ≤ 3) ∧ sm (A (67 + 3 * i)) ∧ sm (A (68 + 3 * i)) ∧ (dNum (A (68 + 3 * i))).length ≤ 3
theorem rSep {G : mG} {s p0 : Nat} {w0 w : mH} {L : List Int32} (h : dS s p0 w0 w L) (hl : L.length + 1 ≤ 142) : mC G mX7_separate 7 1 142 [.ref s] w (mP none (fun w' => dS s p0 w0 w' (L ++ sep L))) := by
  obtain ⟨p, m, hX⟩ := id h
  refine mC_of (by decide +kernel) rfl (Nat.le_of_ble_eq_true rfl) rfl ?_
  have b6 : hfi w s 3 = nI L.length := hX.2.2.2.2.2.2.2.2.1
  refine gX7_separate_0 hX.2.2.2.1 (fun c1 => ?_) (fun c1 => ?_)
  · rw [b6, m_le0 (by omega)] at c1
    have : sep L = [] := by unfold sep; rw [if_pos (by omega)]
    rw [this, List.append_nil]
    exact mP_of h
  · rw [b6, m_le0 (by omega)] at c1
    have : sep L = [59] := by unfold sep; rw [if_neg (by omega)]
    rw [this]
    refine mC_mono (fun o w' ho => ?_) (rJC (k := 59) h (by decide) hl)
    exact ⟨_, ho.1, gX7_separate_13 (mP_of ho.2)⟩
section WR
variable {G : mG} {s p0 t n m kc ks i : Nat} {w0 w : mH} {A : Nat → Int32} {L : List Int32} {Φ : mF}
theorem sg_tail (S : kS t s p0 w0) (kf : kF t w0 A n m) (nb : kN A n m) (hi : i < n) (hl : L.length + 8 ≤ 142) (h : dS s p0 w0 w L) (K : ∀ w', dS s p0 w0 w' ((L ++ dNum (A (42 + 3 * i))) ++ (if A (41 + 3 * i) = 0 then [] else [58] ++ dNum (A (43 + 3 * i)))) → mW G mX7_writeTo 8 (kc + 1) (ks + 142) 90 [(0, .ref t), (1, .ref s), (2, .int (nI i))] [] w' Φ) : mW G mX7_writeTo 8 (kc + 4) (ks + 568) 55 [(0, .ref t), (1, .ref s), (2, .int (nI i))] [.ref s] w Φ := by
  have hn8 := kf.2.1
  have ci : (nI i).toNatClampNeg = i := m_cl (by omega)
  obtain ⟨p, m', hX⟩ := id h
  have kw := kF_d S hX.1 kf
  obtain ⟨z, -, -, -, -, z5, -⟩ := kw
  obtain ⟨⟨n1, n2⟩, n3⟩ := nb.1 i hi
  refine gX7_writeTo_55 (kc := kc + 3) (ks := ks + 426) z.1 z.2.2.1 z.2.2.2.2.2.2.2.2.1 (m_vp (by omega) (by decide)) hX.2.2.2.1 ?_
  rw [ci, (z5 i hi).2.1]
  refine mC_mono (fun o w1 ho => ⟨_, ho.1, ?_⟩) (rJI h n1 (by omega))
  have h1 := ho.2
  obtain ⟨p, m', hX⟩ := id h1
  have kw := kF_d S hX.1 kf
  obtain ⟨z, -, -, -, -, z5, -⟩ := kw
  refine gX7_writeTo_64 (kc := kc + 2) (ks := ks + 284) z.1 z.2.1 z.2.2.2.2.2.2.2.1 (m_vp (by omega) (by decide)) hX.2.2.2.1 (fun c1 => ?_) (fun c1 => ?_)
  · rw [ci, (z5 i hi).1] at c1
    refine mW_more (kc := kc + 1) (ks := ks + 142) (by omega) (by omega) (K w1 ?_)
    rw [if_pos c1, List.append_nil]
    exact h1
  · rw [ci, (z5 i hi).1] at c1
    have hd := dNum_len (A (43 + 3 * i))
    refine mC_mono (fun o w2 ho => ⟨_, ho.1, ?_⟩) (rJC (k := 58) h1 (by decide) (by rw [List.length_append]; omega))
    have h2 := ho.2
    obtain ⟨p, m', hX⟩ := id h2
    have kw := kF_d S hX.1 kf
    obtain ⟨z, -, -, -, -, z5, -⟩ := kw
    refine gX7_writeTo_80 (kc := kc + 1) (ks := ks + 142) z.1 z.2.2.2.1 z.2.2.2.2.2.2.2.2.2.1 (m_vp (by omega) (by decide)) hX.2.2.2.1 ?_
    rw [ci, (z5 i hi).2.2]
    refine mC_mono (fun o w3 ho => ⟨_, ho.1, ?_⟩) (rJI h2 n3 (by rw [List.length_append, List.length_append, List.length_singleton]; omega))
    refine gX7_writeTo_89 (kc := kc) (ks := ks) ?_
    refine K w3 ?_
    rw [if_neg c1]
    have := ho.2
    simp only [List.append_assoc] at this ⊢
    exact this
theorem wr_s (S : kS t s p0 w0) (kf : kF t w0 A n m) (nb : kN A n m) (hi : i < n) (hl : L.length + 9 ≤ 142) (h : dS s p0 w0 w L) (K : ∀ w', dS s p0 w0 w' (L ++ sgL A i) → mW G mX7_writeTo 8 (kc + 1) (ks + 142) 90 [(0, .ref t), (1, .ref s), (2, .int (nI i))] [] w' Φ) : mW G mX7_writeTo 8 (kc + 5) (ks + 710) 20 [(0, .ref t), (1, .ref s), (2, .int (nI i))] [] w Φ := by
  have hn8 := kf.2.1
  have ci : (nI i).toNatClampNeg = i := m_cl (by omega)
  obtain ⟨p, m', hX⟩ := id h
  have kw := kF_d S hX.1 kf
  obtain ⟨z, -, -, -, -, z5, -⟩ := kw
  have J : ∀ (w1 : mH) (x : Int32), x = (if A (41 + 3 * i) = 0 then 115 else if A (41 + 3 * i) = 1 then 98 else 114) → dS s p0 w0 w1 (L ++ [x]) → mW G mX7_writeTo 8 (kc + 4) (ks + 568) 55 [(0, .ref t), (1, .ref s), (2, .int (nI i))] [.ref s] w1 Φ := by
    intro w1 x hx h1
    refine sg_tail S kf nb hi (by rw [List.length_append, List.length_singleton]; omega) h1 (fun w' h' => K w' ?_)
    unfold sgL
    rw [← hx]
    simp only [List.append_assoc] at h' ⊢
    exact h'
  refine gX7_writeTo_20 (kc := kc + 4) (ks := ks + 568) z.1 z.2.1 z.2.2.2.2.2.2.2.1 (m_vp (by omega) (by decide)) hX.2.2.2.1 (fun c1 c2 => ?_) (fun c1 c2 => ?_) (fun c1 => ?_)
  · rw [ci, (z5 i hi).1] at c1 c2
    exact mC_mono (fun o w1 ho => ⟨_, ho.1, J w1 (nI 114) (by rw [if_neg c1, if_neg c2]; rfl) ho.2⟩) (rJC (k := 114) h (by decide) (by omega))
  · rw [ci, (z5 i hi).1] at c1 c2
    exact mC_mono (fun o w1 ho => ⟨_, ho.1, J w1 (nI 98) (by rw [if_neg c1, if_pos c2]; rfl) ho.2⟩) (rJC (k := 98) h (by decide) (by omega))
  · rw [ci, (z5 i hi).1] at c1
    exact mC_mono (fun o w1 ho => ⟨_, ho.1, J w1 (nI 115) (by rw [if_pos c1]; rfl) ho.2⟩) (rJC (k := 115) h (by decide) (by omega))
theorem wr_p (S : kS t s p0 w0) (kf : kF t w0 A n m) (nb : kN A n m) (hi : i < m) (hl : L.length + 13 ≤ 142) (h : dS s p0 w0 w L) (K : ∀ w', dS s p0 w0 w' (L ++ psL A i) → mW G mX7_writeTo 8 (kc + 1) (ks + 142) 161 [(0, .ref t), (1, .ref s), (2, .int (nI i))] [] w' Φ) : mW G mX7_writeTo 8 (kc + 7) (ks + 994) 115 [(0, .ref t), (1, .ref s), (2, .int (nI i))] [] w Φ := by
  have hn4 := kf.2.2.1
  have ci : (nI i).toNatClampNeg = i := m_cl (by omega)
  obtain ⟨⟨n1, n2⟩, n3, n4, n5⟩ := nb.2 i hi
  have hd := dNum_len (A (67 + 3 * i))
  obtain ⟨p, m', hX⟩ := id h
  refine gX7_writeTo_115 (kc := kc + 6) (ks := ks + 852) hX.2.2.2.1 ?_
  refine mC_mono (fun o w1 ho => ⟨_, ho.1, ?_⟩) (rJC (k := 112) h (by decide) (by omega))
  have h1 := ho.2
  obtain ⟨p, m', hX⟩ := id h1
  have kw := kF_d S hX.1 kf
  obtain ⟨z, -, -, -, -, -, z6⟩ := kw
  refine gX7_writeTo_121 (kc := kc + 5) (ks := ks + 710) z.1 z.2.2.2.2.1 z.2.2.2.2.2.2.2.2.2.2.1 (m_vp (by omega) (by decide)) hX.2.2.2.1 ?_
  rw [ci, (z6 i hi).1]
  refine mC_mono (fun o w2 ho => ⟨_, ho.1, ?_⟩) (rJI h1 n1 (by simp only [List.length_append, List.length_singleton]; omega))
  have h2 := ho.2
  obtain ⟨p, m', hX⟩ := id h2
  refine gX7_writeTo_130 (kc := kc + 4) (ks := ks + 568) hX.2.2.2.1 ?_
  refine mC_mono (fun o w3 ho => ⟨_, ho.1, ?_⟩) (rJC (k := 58) h2 (by decide) (by simp only [List.length_append, List.length_singleton]; omega))
  have h3 := ho.2
  obtain ⟨p, m', hX⟩ := id h3
  have kw := kF_d S hX.1 kf
  obtain ⟨z, -, -, -, -, -, z6⟩ := kw
  refine gX7_writeTo_135 (kc := kc + 3) (ks := ks + 426) z.1 z.2.2.2.2.2.1 z.2.2.2.2.2.2.2.2.2.2.2.1 (m_vp (by omega) (by decide)) hX.2.2.2.1 ?_
  rw [ci, (z6 i hi).2.1]
  refine mC_mono (fun o w4 ho => ⟨_, ho.1, ?_⟩) (rJI h3 n3 (by simp only [List.length_append, List.length_singleton]; omega))
  have h4 := ho.2
  obtain ⟨p, m', hX⟩ := id h4
  refine gX7_writeTo_144 (kc := kc + 2) (ks := ks + 284) hX.2.2.2.1 ?_
  refine mC_mono (fun o w5 ho => ⟨_, ho.1, ?_⟩) (rJC (k := 42) h4 (by decide) (by simp only [List.length_append, List.length_singleton]; omega))
  have h5 := ho.2
  obtain ⟨p, m', hX⟩ := id h5
  have kw := kF_d S hX.1 kf
  obtain ⟨z, -, -, -, -, -, z6⟩ := kw
  refine gX7_writeTo_151 (kc := kc + 1) (ks := ks + 142) z.1 z.2.2.2.2.2.2.1 z.2.2.2.2.2.2.2.2.2.2.2.2 (m_vp (by omega) (by decide)) hX.2.2.2.1 ?_
  rw [ci, (z6 i hi).2.2]
  refine mC_mono (fun o w6 ho => ⟨_, ho.1, ?_⟩) (rJI h5 n4 (by simp only [List.length_append, List.length_singleton]; omega))
  refine gX7_writeTo_160 (kc := kc) (ks := ks) (K w6 ?_)
  have := ho.2
  unfold psL
  simp only [List.append_assoc] at this ⊢
  exact this
theorem sgL_l (nb : kN A n m) (hi : i < n) : (sgL A i).length ≤ 9 := by
  have h := (nb.1 i hi).1.2
  have hd := dNum_len (A (43 + 3 * i))
  unfold sgL
  by_cases q : A (41 + 3 * i) = 0
  · rw [if_pos q, if_pos q]; simp only [List.length_append, List.length_singleton, List.length_nil]; omega
  · rw [if_neg q, if_neg q]; simp only [List.length_append, List.length_singleton]; omega
theorem psL_l (nb : kN A n m) (hi : i < m) : (psL A i).length ≤ 13 := by
  have h := nb.2 i hi
  have hd := dNum_len (A (67 + 3 * i))
  unfold psL
  simp only [List.length_append, List.length_singleton]
  omega
theorem tSg_l (nb : kN A n m) : ∀ k, k ≤ n → (tSg A k).length ≤ 10 * k
  | 0, _ => Nat.zero_le _
  | k + 1, h => by
    have h1 := tSg_l nb k (by omega)
    have h2 := sgL_l nb (i := k) (by omega)
    have h3 := sep_len (tSg A k)
    show ((tSg A k ++ sep (tSg A k)) ++ sgL A k).length ≤ _
    rw [List.length_append, List.length_append]
    omega
theorem tPu_l (nb : kN A n m) : ∀ k, k ≤ m → (tPu A n k).length ≤ 10 * n + 14 * k
  | 0, _ => tSg_l nb n (Nat.le_refl n)
  | k + 1, h => by
    have h1 := tPu_l nb k (by omega)
    have h2 := psL_l nb (i := k) (by omega)
    have h3 := sep_len (tPu A n k)
    show ((tPu A n k ++ sep (tPu A n k)) ++ psL A k).length ≤ _
    rw [List.length_append, List.length_append]
    omega
theorem wr_L1 (S : kS t s p0 w0) (kf : kF t w0 A n m) (nb : kN A n m) (K : ∀ w', dS s p0 w0 w' (tSg A n) → mW G mX7_writeTo 8 (kc + 1) (ks + 142) 98 [(0, .ref t), (1, .ref s), (2, .int 0)] [] w' Φ) : ∀ (j i : Nat) (w : mH), i + j = n → dS s p0 w0 w (tSg A i) → mW G mX7_writeTo 8 (kc + 1 + 6 * j) (ks + 142 + 852 * j) 2 [(0, .ref t), (1, .ref s), (2, .int (nI i))] [] w Φ
  | 0, i, w, hij, h => by
    obtain ⟨p, m', hX⟩ := id h
    obtain ⟨z, hn8, -, z3, -, -, -⟩ := kF_d S hX.1 kf
    have e : i = n := by omega
    subst e
    refine gX7_writeTo_2 (kc := kc) (ks := ks) z.1 (fun _ => K w h) (fun c1 => absurd (by rw [z3, m_le (by omega) (by omega)]; exact Nat.le_refl _) c1) (fun c1 => absurd (by rw [z3, m_le (by omega) (by omega)]; exact Nat.le_refl _) c1)
  | j + 1, i, w, hij, h => by
    obtain ⟨p, m', hX⟩ := id h
    obtain ⟨z, hn8, -, z3, -, -, -⟩ := kF_d S hX.1 kf
    have hl := tSg_l nb i (by omega)
    refine mW_more (kc := kc + 6 * j + 5 + 1 + 1) (ks := ks + 852 * j + 710 + 142 + 142) (by omega) (by omega) ?_
    refine gX7_writeTo_2 (kc := kc + 6 * j + 5 + 1) (ks := ks + 852 * j + 710 + 142) z.1 (fun c1 => absurd c1 (by rw [z3, m_le (by omega) (by omega)]; omega)) (fun _ c2 => absurd c2 (by rw [show (8 : Int32) = nI 8 from rfl, m_le (by omega) (by omega)]; omega)) (fun _ _ => ?_)
    refine mC_mono (fun o w1 ho => ⟨ho.1, ?_⟩) (rSep h (by omega))
    have hs := sep_len (tSg A i)
    refine mW_more (kc := kc + 6 * j + 1 + 5) (ks := ks + 852 * j + 142 + 710) (by omega) (by omega) ?_
    refine wr_s (kc := kc + 6 * j + 1) (ks := ks + 852 * j + 142) S kf nb (by omega) (by rw [List.length_append]; omega) ho.2 (fun w2 h2 => ?_)
    refine gX7_writeTo_90 (kc := kc + 6 * j + 1) (ks := ks + 852 * j + 142) ?_
    rw [m_p1]
    refine mW_more (kc := kc + 1 + 6 * j) (ks := ks + 142 + 852 * j) (by omega) (by omega) ?_
    exact wr_L1 S kf nb K j (i + 1) w2 (by omega) h2
theorem wr_L2 (S : kS t s p0 w0) (kf : kF t w0 A n m) (nb : kN A n m) (K : ∀ w', dS s p0 w0 w' (tPu A n m) → Φ (.inl none) w') : ∀ (j i : Nat) (w : mH), i + j = m → dS s p0 w0 w (tPu A n i) → mW G mX7_writeTo 8 (kc + 1 + 8 * j) (ks + 142 + 1136 * j) 98 [(0, .ref t), (1, .ref s), (2, .int (nI i))] [] w Φ
  | 0, i, w, hij, h => by
    obtain ⟨p, m', hX⟩ := id h
    obtain ⟨z, -, hm4, -, z4, -, -⟩ := kF_d S hX.1 kf
    have e : i = m := by omega
    subst e
    refine gX7_writeTo_98 (kc := kc) (ks := ks) z.1 (fun _ => K w h) (fun c1 => absurd (by rw [z4, m_le (by omega) (by omega)]; exact Nat.le_refl _) c1) (fun c1 => absurd (by rw [z4, m_le (by omega) (by omega)]; exact Nat.le_refl _) c1)
  | j + 1, i, w, hij, h => by
    obtain ⟨p, m', hX⟩ := id h
    obtain ⟨z, hn8, hm4, -, z4, -, -⟩ := kF_d S hX.1 kf
    have hl := tPu_l nb i (by omega)
    refine mW_more (kc := kc + 8 * j + 7 + 1 + 1) (ks := ks + 1136 * j + 994 + 142 + 142) (by omega) (by omega) ?_
    refine gX7_writeTo_98 (kc := kc + 8 * j + 7 + 1) (ks := ks + 1136 * j + 994 + 142) z.1 (fun c1 => absurd c1 (by rw [z4, m_le (by omega) (by omega)]; omega)) (fun _ c2 => absurd c2 (by rw [show (4 : Int32) = nI 4 from rfl, m_le (by omega) (by omega)]; omega)) (fun _ _ => ?_)
    refine mC_mono (fun o w1 ho => ⟨ho.1, ?_⟩) (rSep h (by omega))
    have hs := sep_len (tPu A n i)
    refine mW_more (kc := kc + 8 * j + 1 + 7) (ks := ks + 1136 * j + 142 + 994) (by omega) (by omega) ?_
    refine wr_p (kc := kc + 8 * j + 1) (ks := ks + 1136 * j + 142) S kf nb (by omega) (by rw [List.length_append]; omega) ho.2 (fun w2 h2 => ?_)
    refine gX7_writeTo_161 (kc := kc + 8 * j + 1) (ks := ks + 1136 * j + 142) ?_
    rw [m_p1]
    refine mW_more (kc := kc + 1 + 8 * j) (ks := ks + 142 + 1136 * j) (by omega) (by omega) ?_
    exact wr_L2 S kf nb K j (i + 1) w2 (by omega) h2
end WR
theorem rWr {G : mG} {s p0 t n m : Nat} {w0 w : mH} {A : Nat → Int32} (S : kS t s p0 w0) (kf : kF t w0 A n m) (nb : kN A n m) (h : dS s p0 w0 w []) : mC G mX7_writeTo 8 82 11644 [.ref t, .ref s] w (mP none (fun w' => dS s p0 w0 w' (tPu A n m))) := by
  have hn8 := kf.2.1
  have hm4 := kf.2.2.1
  refine mC_of (by decide +kernel) rfl (Nat.le_of_ble_eq_true rfl) rfl ?_
  refine gX7_writeTo_0 (kc := 81) (ks := 11502) ?_
  refine mW_more (kc := 0 + 1 + 8 * m + 1 + 6 * n) (ks := 0 + 142 + 1136 * m + 142 + 852 * n) (by omega) (by omega) ?_
  refine wr_L1 (kc := 0 + 1 + 8 * m) (ks := 0 + 142 + 1136 * m) S kf nb (fun w1 h1 => ?_) n 0 w (Nat.zero_add n) h
  refine mW_more (kc := 0 + 1 + 8 * m) (ks := 0 + 142 + 1136 * m) (by omega) (by omega) ?_
  exact wr_L2 (kc := 0) (ks := 0) S kf nb (fun w' h' => mP_of h') m 0 w1 (Nat.zero_add m) h1
