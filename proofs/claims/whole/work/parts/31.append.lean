abbrev mX8_isAllowed : mM := (yX8_isAllowed, cX8_isAllowed, 3, (some .boolean), [])
set_option maxHeartbeats 4000000 in
set_option maxRecDepth 100000 in
theorem gX8_isAllowed_0 {G : mG} {w : mH} {Φ : mF} {x0 : Int32}  (k1 : mW G mX8_isAllowed 2 0 0 3 [(0, .int x0), (1, .int 24)] [] w Φ) : mW G mX8_isAllowed 2 0 0 0 [(0, .int x0)] [] w Φ := by
  refine mW_bipush (v := 24) dX8_isAllowed_0 (by decide) ?_
  refine mW_istore_n (lv2 := [(1, .int 24), (0, .int x0)]) dX8_isAllowed_2 rfl (by decide) rfl ?_
  refine mW_loc [1, 0] (lv2 := [(0, .int x0), (1, .int 24)]) rfl ?_
  exact k1
set_option maxHeartbeats 4000000 in
set_option maxRecDepth 100000 in
theorem gX8_isAllowed_3 {G : mG} {w : mH} {Φ : mF} {x0 x1 : Int32}  (k1 : (x1 < 0) → Φ (.inl (some (.int 1))) w) (k2 : (¬ (x1 < 0)) → (((x0 >>> (x1 &&& 31)) &&& 255) = 0) → mW G mX8_isAllowed 2 0 0 3 [(0, .int x0), (1, .int (x1 + (-8)))] [] w Φ) (k3 : (¬ (x1 < 0)) → (¬ (((x0 >>> (x1 &&& 31)) &&& 255) = 0)) → (¬ ((vX10_isWithin ((x0 >>> (x1 &&& 31)) &&& 255) 33 126) = 0)) → mW G mX8_isAllowed 2 0 0 3 [(0, .int x0), (1, .int (x1 + (-8)))] [] w Φ) (k4 : (¬ (x1 < 0)) → (¬ (((x0 >>> (x1 &&& 31)) &&& 255) = 0)) → ((vX10_isWithin ((x0 >>> (x1 &&& 31)) &&& 255) 33 126) = 0) → Φ (.inl (some (.int 0))) w) : mW G mX8_isAllowed 2 0 0 3 [(0, .int x0), (1, .int x1)] [] w Φ := by
  refine mW_iload_n (j := 1) dX8_isAllowed_3 rfl rfl ?_
  refine mW_if_lt (tgt := 38) dX8_isAllowed_4 (by decide) (fun c1 => ?_) (fun c1 => ?_)
  · refine mW_iconst (v := 1) dX8_isAllowed_38 (by decide) ?_
    exact mW_zret (ty := .boolean) dX8_isAllowed_39 rfl (by first | rfl | decide) (k1 c1)
  · refine mW_iload_n (j := 0) dX8_isAllowed_7 rfl rfl ?_
    refine mW_iload_n (j := 1) dX8_isAllowed_8 rfl rfl ?_
    refine mW_ishr dX8_isAllowed_9 ?_
    refine mW_sipush (v := 255) dX8_isAllowed_10 (by decide) ?_
    refine mW_iand dX8_isAllowed_13 ?_
    refine mW_istore_n (lv2 := [(2, .int ((x0 >>> (x1 &&& 31)) &&& 255)), (0, .int x0), (1, .int x1)]) dX8_isAllowed_14 rfl (by decide) rfl ?_
    refine mW_iload_n (j := 0) dX8_isAllowed_15 rfl rfl ?_
    refine mW_if_eq (tgt := 32) dX8_isAllowed_16 (by decide) (fun c2 => ?_) (fun c2 => ?_)
    · refine mW_iinc (j := 2) (v := x1 + (-8)) (lv2 := [(1, .int (x1 + (-8))), (2, .int ((x0 >>> (x1 &&& 31)) &&& 255)), (0, .int x0)]) dX8_isAllowed_32 rfl rfl (by decide) rfl ?_
      refine mW_goto (tgt := 3) dX8_isAllowed_35 (by decide) ?_
      refine mW_loc [2, 0] (lv2 := [(0, .int x0), (1, .int (x1 + (-8)))]) rfl ?_
      exact k2 c1 c2
    · refine mW_iload_n (j := 0) dX8_isAllowed_19 rfl rfl ?_
      refine mW_bipush (v := 33) dX8_isAllowed_20 (by decide) ?_
      refine mW_bipush (v := 126) dX8_isAllowed_22 (by decide) ?_
      refine mW_callSNe (As := [.int ((x0 >>> (x1 &&& 31)) &&& 255), .int 33, .int 126]) (rest := []) (kc2 := 0) (ks2 := 0) dX8_isAllowed_24 l_X8_35 rfl (qX10_isWithin (w := w) (x0 := (x0 >>> (x1 &&& 31)) &&& 255) (x1 := 33) (x2 := 126)) (Nat.le_of_ble_eq_true rfl) (by decide) rfl rfl ?_
      refine mW_if_ne (tgt := 32) dX8_isAllowed_27 (by decide) (fun c3 => ?_) (fun c3 => ?_)
      · refine mW_iinc (j := 2) (v := x1 + (-8)) (lv2 := [(1, .int (x1 + (-8))), (2, .int ((x0 >>> (x1 &&& 31)) &&& 255)), (0, .int x0)]) dX8_isAllowed_32 rfl rfl (by decide) rfl ?_
        refine mW_goto (tgt := 3) dX8_isAllowed_35 (by decide) ?_
        refine mW_loc [2, 0] (lv2 := [(0, .int x0), (1, .int (x1 + (-8)))]) rfl ?_
        exact k3 c1 c2 c3
      · refine mW_iconst (v := 0) dX8_isAllowed_30 (by decide) ?_
        exact mW_zret (ty := .boolean) dX8_isAllowed_31 rfl (by first | rfl | decide) (k4 c1 c2 c3)
abbrev mX8_hasRoomFor : mM := (yX8_hasRoomFor, cX8_hasRoomFor, 4, (some .boolean), [])
set_option maxHeartbeats 4000000 in
set_option maxRecDepth 100000 in
theorem gX8_hasRoomFor_0 {G : mG} {w : mH} {Φ : mF} {a0 : Nat} {x1 : Int32}  (k1 : mW G mX8_hasRoomFor 2 0 0 5 [(0, .ref a0), (1, .int x1), (2, .int 0), (3, .int 24)] [] w Φ) : mW G mX8_hasRoomFor 2 0 0 0 [(0, .ref a0), (1, .int x1)] [] w Φ := by
  refine mW_iconst (v := 0) dX8_hasRoomFor_0 (by decide) ?_
  refine mW_istore_n (lv2 := [(2, .int 0), (0, .ref a0), (1, .int x1)]) dX8_hasRoomFor_1 rfl (by decide) rfl ?_
  refine mW_bipush (v := 24) dX8_hasRoomFor_2 (by decide) ?_
  refine mW_istore_n (lv2 := [(3, .int 24), (2, .int 0), (0, .ref a0), (1, .int x1)]) dX8_hasRoomFor_4 rfl (by decide) rfl ?_
  refine mW_loc [2, 3, 1, 0] (lv2 := [(0, .ref a0), (1, .int x1), (2, .int 0), (3, .int 24)]) rfl ?_
  exact k1
set_option maxHeartbeats 4000000 in
set_option maxRecDepth 100000 in
theorem gX8_hasRoomFor_5 {G : mG} {w : mH} {Φ : mF} {a0 : Nat} {x1 x2 x3 : Int32} (h1 : hk w a0 = (8, 0)) (k1 : (x3 < 0) → (50 < ((hfi w a0 1) + x2)) → Φ (.inl (some (.int 0))) w) (k2 : (x3 < 0) → (¬ (50 < ((hfi w a0 1) + x2))) → Φ (.inl (some (.int 1))) w) (k3 : (¬ (x3 < 0)) → (((x1 >>> (x3 &&& 31)) &&& 255) = 0) → mW G mX8_hasRoomFor 2 0 0 5 [(0, .ref a0), (1, .int x1), (2, .int x2), (3, .int (x3 + (-8)))] [] w Φ) (k4 : (¬ (x3 < 0)) → (¬ (((x1 >>> (x3 &&& 31)) &&& 255) = 0)) → mW G mX8_hasRoomFor 2 0 0 5 [(0, .ref a0), (1, .int x1), (2, .int (x2 + 1)), (3, .int (x3 + (-8)))] [] w Φ) : mW G mX8_hasRoomFor 2 0 0 5 [(0, .ref a0), (1, .int x1), (2, .int x2), (3, .int x3)] [] w Φ := by
  refine mW_iload_n (j := 3) dX8_hasRoomFor_5 rfl rfl ?_
  refine mW_if_lt (tgt := 28) dX8_hasRoomFor_6 (by decide) (fun c1 => ?_) (fun c1 => ?_)
  · refine mW_aload_n (j := 0) dX8_hasRoomFor_28 rfl rfl ?_
    refine mW_get dX8_hasRoomFor_29 f_X8_15 h1 rfl ?_
    refine mW_iload_n (j := 2) dX8_hasRoomFor_32 rfl rfl ?_
    refine mW_iadd dX8_hasRoomFor_33 ?_
    refine mW_bipush (v := 50) dX8_hasRoomFor_34 (by decide) ?_
    refine mW_icmp_gt (tgt := 43) dX8_hasRoomFor_36 (by decide) (fun c2 => ?_) (fun c2 => ?_)
    · refine mW_iconst (v := 0) dX8_hasRoomFor_43 (by decide) ?_
      exact mW_zret (ty := .boolean) dX8_hasRoomFor_44 rfl (by first | rfl | decide) (k1 c1 c2)
    · refine mW_iconst (v := 1) dX8_hasRoomFor_39 (by decide) ?_
      refine mW_goto (tgt := 44) dX8_hasRoomFor_40 (by decide) ?_
      exact mW_zret (ty := .boolean) dX8_hasRoomFor_44 rfl (by first | rfl | decide) (k2 c1 c2)
  · refine mW_iload_n (j := 1) dX8_hasRoomFor_9 rfl rfl ?_
    refine mW_iload_n (j := 3) dX8_hasRoomFor_10 rfl rfl ?_
    refine mW_ishr dX8_hasRoomFor_11 ?_
    refine mW_sipush (v := 255) dX8_hasRoomFor_12 (by decide) ?_
    refine mW_iand dX8_hasRoomFor_15 ?_
    refine mW_if_eq (tgt := 22) dX8_hasRoomFor_16 (by decide) (fun c3 => ?_) (fun c3 => ?_)
    · refine mW_iinc (j := 3) (v := x3 + (-8)) (lv2 := [(3, .int (x3 + (-8))), (0, .ref a0), (1, .int x1), (2, .int x2)]) dX8_hasRoomFor_22 rfl rfl (by decide) rfl ?_
      refine mW_goto (tgt := 5) dX8_hasRoomFor_25 (by decide) ?_
      refine mW_loc [1, 2, 3, 0] (lv2 := [(0, .ref a0), (1, .int x1), (2, .int x2), (3, .int (x3 + (-8)))]) rfl ?_
      exact k3 c1 c3
    · refine mW_iinc (j := 2) (v := x2 + 1) (lv2 := [(2, .int (x2 + 1)), (0, .ref a0), (1, .int x1), (3, .int x3)]) dX8_hasRoomFor_19 rfl rfl (by decide) rfl ?_
      refine mW_iinc (j := 3) (v := x3 + (-8)) (lv2 := [(3, .int (x3 + (-8))), (2, .int (x2 + 1)), (0, .ref a0), (1, .int x1)]) dX8_hasRoomFor_22 rfl rfl (by decide) rfl ?_
      refine mW_goto (tgt := 5) dX8_hasRoomFor_25 (by decide) ?_
      refine mW_loc [2, 3, 1, 0] (lv2 := [(0, .ref a0), (1, .int x1), (2, .int (x2 + 1)), (3, .int (x3 + (-8)))]) rfl ?_
      exact k4 c1 c3
abbrev mX8_takeIn : mM := (yX8_takeIn, cX8_takeIn, 4, none, [])
set_option maxHeartbeats 4000000 in
set_option maxRecDepth 100000 in
theorem gX8_takeIn_0 {G : mG} {w : mH} {Φ : mF} {a0 : Nat} {x1 : Int32}  (k1 : mW G mX8_takeIn 2 0 0 3 [(0, .ref a0), (1, .int x1), (2, .int 24)] [] w Φ) : mW G mX8_takeIn 2 0 0 0 [(0, .ref a0), (1, .int x1)] [] w Φ := by
  refine mW_bipush (v := 24) dX8_takeIn_0 (by decide) ?_
  refine mW_istore_n (lv2 := [(2, .int 24), (0, .ref a0), (1, .int x1)]) dX8_takeIn_2 rfl (by decide) rfl ?_
  refine mW_loc [1, 2, 0] (lv2 := [(0, .ref a0), (1, .int x1), (2, .int 24)]) rfl ?_
  exact k1
theorem p_X8_15 : mPut "LineFollowerBench$TrackReader" 15 8 1 (.int) false := ⟨RX8, TX8, 6, "LineFollowerBench$TrackReader", tyX8, rfl, by decide, in_X8, u257, Or.inl rfl, by decide, tyX8_ok, nmX8, by decide +kernel, rfl, fun h => by cases h⟩
theorem ob_8_1 (w : mH) (a : Nat) (v : Int32) : mOb (sfi w a 1 v) a 8 = (mOb w a 8).set 1 (.int v) := by simp [mOb, hfi_sfi, hfl_sfi, hfr_sfi, up2]
set_option maxHeartbeats 4000000 in
set_option maxRecDepth 100000 in
theorem gX8_takeIn_3 {G : mG} {w : mH} {Φ : mF} {a0 : Nat} {x1 x2 : Int32} {a0_0 n_a0_0 : Nat} (h1 : hk w a0 = (8, 0)) (h2 : hfr w a0 0 = some a0_0) (h3 : hk w a0_0 = (18, n_a0_0)) (s1 : (¬ (x2 < 0)) → (¬ (((x1 >>> (x2 &&& 31)) &&& 255) = 0)) → (¬ (50 ≤ (hfi w a0 1))) → vp_in (hfi w a0 1) n_a0_0) (k1 : (x2 < 0) → Φ (.inl none) w) (k2 : (¬ (x2 < 0)) → (((x1 >>> (x2 &&& 31)) &&& 255) = 0) → mW G mX8_takeIn 2 0 0 3 [(0, .ref a0), (1, .int x1), (2, .int (x2 + (-8)))] [] w Φ) (k3 : (¬ (x2 < 0)) → (¬ (((x1 >>> (x2 &&& 31)) &&& 255) = 0)) → (50 ≤ (hfi w a0 1)) → mW G mX8_takeIn 2 0 0 3 [(0, .ref a0), (1, .int x1), (2, .int (x2 + (-8)))] [] w Φ) (k4 : (¬ (x2 < 0)) → (¬ (((x1 >>> (x2 &&& 31)) &&& 255) = 0)) → (¬ (50 ≤ (hfi w a0 1))) → ∀ w1 : mH, (w1 = sai w a0_0 ((hfi w a0 1).toNatClampNeg) (vp_nar .char ((((x1 >>> (x2 &&& 31)) &&& 255).toUInt32 % 65536).toInt32))) → ∀ w2 : mH, (w2 = sfi w1 a0 1 ((hfi w1 a0 1) + 1)) → mW G mX8_takeIn 2 0 0 3 [(0, .ref a0), (1, .int x1), (2, .int (x2 + (-8)))] [] w2 Φ) : mW G mX8_takeIn 2 0 0 3 [(0, .ref a0), (1, .int x1), (2, .int x2)] [] w Φ := by
  refine mW_iload_n (j := 2) dX8_takeIn_3 rfl rfl ?_
  refine mW_if_lt (tgt := 55) dX8_takeIn_4 (by decide) (fun c1 => ?_) (fun c1 => ?_)
  · exact mW_vret dX8_takeIn_55 rfl (k1 c1)
  · refine mW_iload_n (j := 1) dX8_takeIn_7 rfl rfl ?_
    refine mW_iload_n (j := 2) dX8_takeIn_8 rfl rfl ?_
    refine mW_ishr dX8_takeIn_9 ?_
    refine mW_sipush (v := 255) dX8_takeIn_10 (by decide) ?_
    refine mW_iand dX8_takeIn_13 ?_
    refine mW_istore_n (lv2 := [(3, .int ((x1 >>> (x2 &&& 31)) &&& 255)), (0, .ref a0), (1, .int x1), (2, .int x2)]) dX8_takeIn_14 rfl (by decide) rfl ?_
    refine mW_iload_n (j := 0) dX8_takeIn_15 rfl rfl ?_
    refine mW_if_eq (tgt := 49) dX8_takeIn_16 (by decide) (fun c2 => ?_) (fun c2 => ?_)
    · refine mW_iinc (j := 3) (v := x2 + (-8)) (lv2 := [(2, .int (x2 + (-8))), (3, .int ((x1 >>> (x2 &&& 31)) &&& 255)), (0, .ref a0), (1, .int x1)]) dX8_takeIn_49 rfl rfl (by decide) rfl ?_
      refine mW_goto (tgt := 3) dX8_takeIn_52 (by decide) ?_
      refine mW_loc [2, 3, 0] (lv2 := [(0, .ref a0), (1, .int x1), (2, .int (x2 + (-8)))]) rfl ?_
      exact k2 c1 c2
    · refine mW_aload_n (j := 1) dX8_takeIn_19 rfl rfl ?_
      refine mW_get dX8_takeIn_20 f_X8_15 h1 rfl ?_
      refine mW_bipush (v := 50) dX8_takeIn_23 (by decide) ?_
      refine mW_icmp_ge (tgt := 49) dX8_takeIn_25 (by decide) (fun c3 => ?_) (fun c3 => ?_)
      · refine mW_iinc (j := 3) (v := x2 + (-8)) (lv2 := [(2, .int (x2 + (-8))), (3, .int ((x1 >>> (x2 &&& 31)) &&& 255)), (0, .ref a0), (1, .int x1)]) dX8_takeIn_49 rfl rfl (by decide) rfl ?_
        refine mW_goto (tgt := 3) dX8_takeIn_52 (by decide) ?_
        refine mW_loc [2, 3, 0] (lv2 := [(0, .ref a0), (1, .int x1), (2, .int (x2 + (-8)))]) rfl ?_
        exact k3 c1 c2 c3
      · refine mW_aload_n (j := 1) dX8_takeIn_28 rfl rfl ?_
        refine mW_getR dX8_takeIn_29 f_X8_9 h1 rfl h2 ?_
        refine mW_aload_n (j := 1) dX8_takeIn_32 rfl rfl ?_
        refine mW_get dX8_takeIn_33 f_X8_15 h1 rfl ?_
        refine mW_iload_n (j := 0) dX8_takeIn_36 rfl rfl ?_
        refine mW_i2c dX8_takeIn_37 rfl ?_
        refine mW_castJ dX8_takeIn_38 h3 (s1 c1 c2 c3) rfl ?_
        refine mW_nm (fun w1 e1 => ?_)
        refine mW_aload_n (j := 1) dX8_takeIn_39 rfl rfl ?_
        refine mW_dup dX8_takeIn_40 rfl ?_
        refine mW_get dX8_takeIn_41 f_X8_15 (s2k (S2_sai e1) h1) rfl ?_
        refine mW_iconst (v := 1) dX8_takeIn_44 (by decide) ?_
        refine mW_iadd dX8_takeIn_45 ?_
        refine mW_put (ty := .int) (w2 := sfi w1 a0 1 ((hfi w1 a0 1) + 1)) dX8_takeIn_46 p_X8_15 (s2k (S2_sai e1) h1) (Nat.le_of_ble_eq_true rfl) (by first | rfl | decide | (repeat' split) <;> rfl) rfl (hN_sfi _ _ _ _) (hk_sfi _ _ _ _) (mE_sfi (s2k (S2_sai e1) h1) (by decide) (ob_8_1 _ _ _)) ?_
        refine mW_nm (fun w2 e2 => ?_)
        refine mW_iinc (j := 3) (v := x2 + (-8)) (lv2 := [(2, .int (x2 + (-8))), (3, .int ((x1 >>> (x2 &&& 31)) &&& 255)), (0, .ref a0), (1, .int x1)]) dX8_takeIn_49 rfl rfl (by decide) rfl ?_
        refine mW_goto (tgt := 3) dX8_takeIn_52 (by decide) ?_
        refine mW_loc [2, 3, 0] (lv2 := [(0, .ref a0), (1, .int x1), (2, .int (x2 + (-8)))]) rfl ?_
        exact k4 c1 c2 c3 w1 e1 w2 e2
abbrev mX11_append : mM := (yX11_append, cX11_append, 5, (some .int), [])
set_option maxHeartbeats 4000000 in
set_option maxRecDepth 100000 in
theorem gX11_append_0 {G : mG} {w : mH} {Φ : mF} {a0 : Nat} {x1 : Int32} (h1 : hk w a0 = (11, 0)) (k1 : ∀ w1 : mH, (w1 = sfi w a0 0 0) → mW G mX11_append 2 0 0 10 [(0, .ref a0), (1, .int x1), (2, .int 0), (3, .int 24)] [] w1 Φ) : mW G mX11_append 2 0 0 0 [(0, .ref a0), (1, .int x1)] [] w Φ := by
  refine mW_aload_n (j := 0) dX11_append_0 rfl rfl ?_
  refine mW_iconst (v := 0) dX11_append_1 (by decide) ?_
  refine mW_put (ty := .int) (w2 := sfi w a0 0 0) dX11_append_2 p_X11_3 h1 (Nat.le_of_ble_eq_true rfl) (by first | rfl | decide | (repeat' split) <;> rfl) rfl (hN_sfi _ _ _ _) (hk_sfi _ _ _ _) (mE_sfi h1 (by decide) (ob_11_0 _ _ _)) ?_
  refine mW_nm (fun w1 e1 => ?_)
  refine mW_iconst (v := 0) dX11_append_5 (by decide) ?_
  refine mW_istore_n (lv2 := [(2, .int 0), (0, .ref a0), (1, .int x1)]) dX11_append_6 rfl (by decide) rfl ?_
  refine mW_bipush (v := 24) dX11_append_7 (by decide) ?_
  refine mW_istore_n (lv2 := [(3, .int 24), (2, .int 0), (0, .ref a0), (1, .int x1)]) dX11_append_9 rfl (by decide) rfl ?_
  refine mW_loc [2, 3, 1, 0] (lv2 := [(0, .ref a0), (1, .int x1), (2, .int 0), (3, .int 24)]) rfl ?_
  exact k1 w1 e1
theorem u1756 : (Cond.constantLong "LineFollowerBenchModel" 142 33 : Cond) ∈ mTs := mTs_in 1756 (by decide +kernel) (by decide +kernel)
theorem u1757 : (Cond.constantLong "LineFollowerBenchModel" 144 126 : Cond) ∈ mTs := mTs_in 1757 (by decide +kernel) (by decide +kernel)
set_option maxHeartbeats 4000000 in
set_option maxRecDepth 100000 in
theorem gX11_append_10 {G : mG} {w : mH} {Φ : mF} {a0 : Nat} {x1 x2 x3 : Int32} (h1 : hk w a0 = (11, 0)) (k1 : (x3 < 0) → (¬ ((hfi w a0 0) = 0)) → ∀ w1 : mH, (w1 = sfi w a0 0 (hfi w a0 0)) → ((hfi w1 a0 0) = 0) → mW G mX11_append 2 0 0 116 [(0, .ref a0), (1, .int x1), (2, .int x2), (3, .int 24)] [] w1 Φ) (k2 : (x3 < 0) → (¬ ((hfi w a0 0) = 0)) → ∀ w1 : mH, (w1 = sfi w a0 0 (hfi w a0 0)) → (¬ ((hfi w1 a0 0) = 0)) → Φ (.inl (some (.int 0))) w1) (k3 : (x3 < 0) → ((hfi w a0 0) = 0) → (((hfi w a0 8) + x2) ≤ 50) → ∀ w2 : mH, (w2 = sfi w a0 0 (hfi w a0 0)) → ((hfi w2 a0 0) = 0) → mW G mX11_append 2 0 0 116 [(0, .ref a0), (1, .int x1), (2, .int x2), (3, .int 24)] [] w2 Φ) (k4 : (x3 < 0) → ((hfi w a0 0) = 0) → (((hfi w a0 8) + x2) ≤ 50) → ∀ w2 : mH, (w2 = sfi w a0 0 (hfi w a0 0)) → (¬ ((hfi w2 a0 0) = 0)) → Φ (.inl (some (.int 0))) w2) (k5 : (x3 < 0) → ((hfi w a0 0) = 0) → (¬ (((hfi w a0 8) + x2) ≤ 50)) → ∀ w3 : mH, (w3 = sfi w a0 0 2) → ((hfi w3 a0 0) = 0) → mW G mX11_append 2 0 0 116 [(0, .ref a0), (1, .int x1), (2, .int x2), (3, .int 24)] [] w3 Φ) (k6 : (x3 < 0) → ((hfi w a0 0) = 0) → (¬ (((hfi w a0 8) + x2) ≤ 50)) → ∀ w3 : mH, (w3 = sfi w a0 0 2) → (¬ ((hfi w3 a0 0) = 0)) → Φ (.inl (some (.int 0))) w3) (k7 : (¬ (x3 < 0)) → (¬ (((x1 >>> (x3 &&& 31)) &&& 255) = 0)) → (¬ ((vX11_in (((x1 >>> (x3 &&& 31)) &&& 255).toInt64) 33 126) = 0)) → ∀ w4 : mH, (w4 = sfi w a0 0 (hfi w a0 0)) → mW G mX11_append 2 0 0 10 [(0, .ref a0), (1, .int x1), (2, .int (x2 + 1)), (3, .int (x3 + (-8)))] [] w4 Φ) (k8 : (¬ (x3 < 0)) → (¬ (((x1 >>> (x3 &&& 31)) &&& 255) = 0)) → ((vX11_in (((x1 >>> (x3 &&& 31)) &&& 255).toInt64) 33 126) = 0) → ∀ w5 : mH, (w5 = sfi w a0 0 1) → mW G mX11_append 2 0 0 10 [(0, .ref a0), (1, .int x1), (2, .int (x2 + 1)), (3, .int (x3 + (-8)))] [] w5 Φ) (k9 : (¬ (x3 < 0)) → (((x1 >>> (x3 &&& 31)) &&& 255) = 0) → ∀ w6 : mH, (w6 = sfi w a0 0 (hfi w a0 0)) → mW G mX11_append 2 0 0 10 [(0, .ref a0), (1, .int x1), (2, .int (x2 + 0)), (3, .int (x3 + (-8)))] [] w6 Φ) : mW G mX11_append 2 0 0 10 [(0, .ref a0), (1, .int x1), (2, .int x2), (3, .int x3)] [] w Φ := by
  refine mW_iload_n (j := 3) dX11_append_10 rfl rfl ?_
  refine mW_if_lt (tgt := 74) dX11_append_11 (by decide) (fun c1 => ?_) (fun c1 => ?_)
  · refine mW_aload_n (j := 0) dX11_append_74 rfl rfl ?_
    refine mW_aload_n (j := 0) dX11_append_75 rfl rfl ?_
    refine mW_get dX11_append_76 f_X11_3 h1 rfl ?_
    refine mW_if_ne (tgt := 97) dX11_append_79 (by decide) (fun c2 => ?_) (fun c2 => ?_)
    · refine mW_aload_n (j := 0) dX11_append_97 rfl rfl ?_
      refine mW_get dX11_append_98 f_X11_3 h1 rfl ?_
      refine mW_put (ty := .int) (w2 := sfi w a0 0 (hfi w a0 0)) dX11_append_101 p_X11_3 h1 (Nat.le_of_ble_eq_true rfl) (by first | rfl | decide | (repeat' split) <;> rfl) rfl (hN_sfi _ _ _ _) (hk_sfi _ _ _ _) (mE_sfi h1 (by decide) (ob_11_0 _ _ _)) ?_
      refine mW_nm (fun w1 e1 => ?_)
      refine mW_aload_n (j := 0) dX11_append_104 rfl rfl ?_
      refine mW_get dX11_append_105 f_X11_3 (s2k (S2_sfi e1) h1) rfl ?_
      refine mW_if_eq (tgt := 113) dX11_append_108 (by decide) (fun c3 => ?_) (fun c3 => ?_)
      · refine mW_bipush (v := 24) dX11_append_113 (by decide) ?_
        refine mW_istore_n (lv2 := [(3, .int 24), (0, .ref a0), (1, .int x1), (2, .int x2)]) dX11_append_115 rfl (by decide) rfl ?_
        refine mW_loc [1, 2, 3, 0] (lv2 := [(0, .ref a0), (1, .int x1), (2, .int x2), (3, .int 24)]) rfl ?_
        exact k1 c1 c2 w1 e1 c3
      · refine mW_iconst (v := 0) dX11_append_111 (by decide) ?_
        exact mW_iret dX11_append_112 rfl (k2 c1 c2 w1 e1 c3)
    · refine mW_aload_n (j := 0) dX11_append_82 rfl rfl ?_
      refine mW_get dX11_append_83 f_X11_146 h1 rfl ?_
      refine mW_iload_n (j := 2) dX11_append_86 rfl rfl ?_
      refine mW_iadd dX11_append_87 ?_
      refine mW_bipush (v := 50) dX11_append_88 (by decide) ?_
      refine mW_icmp_le (tgt := 97) dX11_append_90 (by decide) (fun c4 => ?_) (fun c4 => ?_)
      · refine mW_aload_n (j := 0) dX11_append_97 rfl rfl ?_
        refine mW_get dX11_append_98 f_X11_3 h1 rfl ?_
        refine mW_put (ty := .int) (w2 := sfi w a0 0 (hfi w a0 0)) dX11_append_101 p_X11_3 h1 (Nat.le_of_ble_eq_true rfl) (by first | rfl | decide | (repeat' split) <;> rfl) rfl (hN_sfi _ _ _ _) (hk_sfi _ _ _ _) (mE_sfi h1 (by decide) (ob_11_0 _ _ _)) ?_
        refine mW_nm (fun w2 e2 => ?_)
        refine mW_aload_n (j := 0) dX11_append_104 rfl rfl ?_
        refine mW_get dX11_append_105 f_X11_3 (s2k (S2_sfi e2) h1) rfl ?_
        refine mW_if_eq (tgt := 113) dX11_append_108 (by decide) (fun c5 => ?_) (fun c5 => ?_)
        · refine mW_bipush (v := 24) dX11_append_113 (by decide) ?_
          refine mW_istore_n (lv2 := [(3, .int 24), (0, .ref a0), (1, .int x1), (2, .int x2)]) dX11_append_115 rfl (by decide) rfl ?_
          refine mW_loc [1, 2, 3, 0] (lv2 := [(0, .ref a0), (1, .int x1), (2, .int x2), (3, .int 24)]) rfl ?_
          exact k3 c1 c2 c4 w2 e2 c5
        · refine mW_iconst (v := 0) dX11_append_111 (by decide) ?_
          exact mW_iret dX11_append_112 rfl (k4 c1 c2 c4 w2 e2 c5)
      · refine mW_iconst (v := 2) dX11_append_93 (by decide) ?_
        refine mW_goto (tgt := 101) dX11_append_94 (by decide) ?_
        refine mW_put (ty := .int) (w2 := sfi w a0 0 2) dX11_append_101 p_X11_3 h1 (Nat.le_of_ble_eq_true rfl) (by first | rfl | decide | (repeat' split) <;> rfl) rfl (hN_sfi _ _ _ _) (hk_sfi _ _ _ _) (mE_sfi h1 (by decide) (ob_11_0 _ _ _)) ?_
        refine mW_nm (fun w3 e3 => ?_)
        refine mW_aload_n (j := 0) dX11_append_104 rfl rfl ?_
        refine mW_get dX11_append_105 f_X11_3 (s2k (S2_sfi e3) h1) rfl ?_
        refine mW_if_eq (tgt := 113) dX11_append_108 (by decide) (fun c6 => ?_) (fun c6 => ?_)
        · refine mW_bipush (v := 24) dX11_append_113 (by decide) ?_
          refine mW_istore_n (lv2 := [(3, .int 24), (0, .ref a0), (1, .int x1), (2, .int x2)]) dX11_append_115 rfl (by decide) rfl ?_
          refine mW_loc [1, 2, 3, 0] (lv2 := [(0, .ref a0), (1, .int x1), (2, .int x2), (3, .int 24)]) rfl ?_
          exact k5 c1 c2 c4 w3 e3 c6
        · refine mW_iconst (v := 0) dX11_append_111 (by decide) ?_
          exact mW_iret dX11_append_112 rfl (k6 c1 c2 c4 w3 e3 c6)
  · refine mW_iload_n (j := 1) dX11_append_14 rfl rfl ?_
    refine mW_iload_n (j := 3) dX11_append_15 rfl rfl ?_
    refine mW_ishr dX11_append_16 ?_
    refine mW_sipush (v := 255) dX11_append_17 (by decide) ?_
    refine mW_iand dX11_append_20 ?_
    refine mW_istore (lv2 := [(4, .int ((x1 >>> (x3 &&& 31)) &&& 255)), (0, .ref a0), (1, .int x1), (2, .int x2), (3, .int x3)]) dX11_append_21 (by decide) rfl ?_
    refine mW_iload_n (j := 3) dX11_append_23 rfl rfl ?_
    refine mW_iload (j := 0) dX11_append_24 rfl ?_
    refine mW_if_ne (tgt := 33) dX11_append_26 (by decide) (fun c7 => ?_) (fun c7 => ?_)
    · refine mW_iconst (v := 1) dX11_append_33 (by decide) ?_
      refine mW_iadd dX11_append_34 ?_
      refine mW_istore_n (lv2 := [(2, .int (x2 + 1)), (4, .int ((x1 >>> (x3 &&& 31)) &&& 255)), (0, .ref a0), (1, .int x1), (3, .int x3)]) dX11_append_35 rfl (by decide) rfl ?_
      refine mW_aload_n (j := 2) dX11_append_36 rfl rfl ?_
      refine mW_iload (j := 1) dX11_append_37 rfl ?_
      refine mW_if_eq (tgt := 61) dX11_append_39 (by decide) (fun c => absurd c c7) (fun _ => ?_)
      refine mW_iload (j := 1) dX11_append_42 rfl ?_
      refine mW_i2l dX11_append_44 ?_
      refine mW_ldc2 (v := 33) dX11_append_45 u1756 ?_
      refine mW_ldc2 (v := 126) dX11_append_48 u1757 ?_
      refine mW_callSe (As := [.long (((x1 >>> (x3 &&& 31)) &&& 255).toInt64), .long 33, .long 126]) (rest := [.ref a0]) (kc2 := 0) (ks2 := 0) dX11_append_51 l_X11_92 rfl (qX11_in (w := w) (y0 := ((x1 >>> (x3 &&& 31)) &&& 255).toInt64) (y2 := 33) (y4 := 126)) (Nat.le_of_ble_eq_true rfl) (by decide) rfl rfl ?_
      refine mW_if_ne (tgt := 61) dX11_append_54 (by decide) (fun c8 => ?_) (fun c8 => ?_)
      · refine mW_aload_n (j := 2) dX11_append_61 rfl rfl ?_
        refine mW_get dX11_append_62 f_X11_3 h1 rfl ?_
        refine mW_put (ty := .int) (w2 := sfi w a0 0 (hfi w a0 0)) dX11_append_65 p_X11_3 h1 (Nat.le_of_ble_eq_true rfl) (by first | rfl | decide | (repeat' split) <;> rfl) rfl (hN_sfi _ _ _ _) (hk_sfi _ _ _ _) (mE_sfi h1 (by decide) (ob_11_0 _ _ _)) ?_
        refine mW_nm (fun w4 e4 => ?_)
        refine mW_iinc (j := 4) (v := x3 + (-8)) (lv2 := [(3, .int (x3 + (-8))), (2, .int (x2 + 1)), (4, .int ((x1 >>> (x3 &&& 31)) &&& 255)), (0, .ref a0), (1, .int x1)]) dX11_append_68 rfl rfl (by decide) rfl ?_
        refine mW_goto (tgt := 10) dX11_append_71 (by decide) ?_
        refine mW_loc [3, 4, 1, 0] (lv2 := [(0, .ref a0), (1, .int x1), (2, .int (x2 + 1)), (3, .int (x3 + (-8)))]) rfl ?_
        exact k7 c1 c7 c8 w4 e4
      · refine mW_iconst (v := 1) dX11_append_57 (by decide) ?_
        refine mW_goto (tgt := 65) dX11_append_58 (by decide) ?_
        refine mW_put (ty := .int) (w2 := sfi w a0 0 1) dX11_append_65 p_X11_3 h1 (Nat.le_of_ble_eq_true rfl) (by first | rfl | decide | (repeat' split) <;> rfl) rfl (hN_sfi _ _ _ _) (hk_sfi _ _ _ _) (mE_sfi h1 (by decide) (ob_11_0 _ _ _)) ?_
        refine mW_nm (fun w5 e5 => ?_)
        refine mW_iinc (j := 4) (v := x3 + (-8)) (lv2 := [(3, .int (x3 + (-8))), (2, .int (x2 + 1)), (4, .int ((x1 >>> (x3 &&& 31)) &&& 255)), (0, .ref a0), (1, .int x1)]) dX11_append_68 rfl rfl (by decide) rfl ?_
        refine mW_goto (tgt := 10) dX11_append_71 (by decide) ?_
        refine mW_loc [3, 4, 1, 0] (lv2 := [(0, .ref a0), (1, .int x1), (2, .int (x2 + 1)), (3, .int (x3 + (-8)))]) rfl ?_
        exact k8 c1 c7 c8 w5 e5
    · refine mW_iconst (v := 0) dX11_append_29 (by decide) ?_
      refine mW_goto (tgt := 34) dX11_append_30 (by decide) ?_
      refine mW_iadd dX11_append_34 ?_
      refine mW_istore_n (lv2 := [(2, .int (x2 + 0)), (4, .int ((x1 >>> (x3 &&& 31)) &&& 255)), (0, .ref a0), (1, .int x1), (3, .int x3)]) dX11_append_35 rfl (by decide) rfl ?_
      refine mW_aload_n (j := 2) dX11_append_36 rfl rfl ?_
      refine mW_iload (j := 1) dX11_append_37 rfl ?_
      refine mW_if_eq (tgt := 61) dX11_append_39 (by decide) (fun _ => ?_) (fun c => absurd c7 c)
      refine mW_aload_n (j := 2) dX11_append_61 rfl rfl ?_
      refine mW_get dX11_append_62 f_X11_3 h1 rfl ?_
      refine mW_put (ty := .int) (w2 := sfi w a0 0 (hfi w a0 0)) dX11_append_65 p_X11_3 h1 (Nat.le_of_ble_eq_true rfl) (by first | rfl | decide | (repeat' split) <;> rfl) rfl (hN_sfi _ _ _ _) (hk_sfi _ _ _ _) (mE_sfi h1 (by decide) (ob_11_0 _ _ _)) ?_
      refine mW_nm (fun w6 e6 => ?_)
      refine mW_iinc (j := 4) (v := x3 + (-8)) (lv2 := [(3, .int (x3 + (-8))), (2, .int (x2 + 0)), (4, .int ((x1 >>> (x3 &&& 31)) &&& 255)), (0, .ref a0), (1, .int x1)]) dX11_append_68 rfl rfl (by decide) rfl ?_
      refine mW_goto (tgt := 10) dX11_append_71 (by decide) ?_
      refine mW_loc [3, 4, 1, 0] (lv2 := [(0, .ref a0), (1, .int x1), (2, .int (x2 + 0)), (3, .int (x3 + (-8)))]) rfl ?_
      exact k9 c1 c7 w6 e6
theorem p_X11_146 : mPut "LineFollowerBenchModel" 146 11 8 (.int) false := ⟨RX11, TX11, 36, "LineFollowerBenchModel", tyX11, rfl, by decide, in_X11, u1568, Or.inl rfl, by decide, tyX11_ok, nmX11, by decide +kernel, rfl, fun h => by cases h⟩
theorem ob_11_8 (w : mH) (a : Nat) (v : Int32) : mOb (sfi w a 8 v) a 11 = (mOb w a 11).set 8 (.int v) := by simp [mOb, hfi_sfi, hfl_sfi, hfr_sfi, up2]
set_option maxHeartbeats 4000000 in
set_option maxRecDepth 100000 in
theorem gX11_append_116 {G : mG} {w : mH} {Φ : mF} {a0 : Nat} {x1 x2 x3 : Int32} {a0_7 n_a0_7 : Nat} (h1 : hk w a0 = (11, 0)) (h2 : hfr w a0 7 = some a0_7) (h3 : hk w a0_7 = (16, n_a0_7)) (s1 : (¬ (x3 < 0)) → (¬ (((x1 >>> (x3 &&& 31)) &&& 255) = 0)) → vp_in (hfi w a0 8) n_a0_7) (k1 : (x3 < 0) → Φ (.inl (some (.int (hfi w a0 8)))) w) (k2 : (¬ (x3 < 0)) → (¬ (((x1 >>> (x3 &&& 31)) &&& 255) = 0)) → ∀ w1 : mH, (w1 = sai w a0_7 ((hfi w a0 8).toNatClampNeg) ((x1 >>> (x3 &&& 31)) &&& 255)) → ∀ w2 : mH, (w2 = sfi w1 a0 8 ((hfi w1 a0 8) + 1)) → mW G mX11_append 2 0 0 116 [(0, .ref a0), (1, .int x1), (2, .int x2), (3, .int (x3 + (-8)))] [] w2 Φ) (k3 : (¬ (x3 < 0)) → (((x1 >>> (x3 &&& 31)) &&& 255) = 0) → mW G mX11_append 2 0 0 116 [(0, .ref a0), (1, .int x1), (2, .int x2), (3, .int (x3 + (-8)))] [] w Φ) : mW G mX11_append 2 0 0 116 [(0, .ref a0), (1, .int x1), (2, .int x2), (3, .int x3)] [] w Φ := by
  refine mW_iload_n (j := 3) dX11_append_116 rfl rfl ?_
  refine mW_if_lt (tgt := 164) dX11_append_117 (by decide) (fun c1 => ?_) (fun c1 => ?_)
  · refine mW_aload_n (j := 0) dX11_append_164 rfl rfl ?_
    refine mW_get dX11_append_165 f_X11_146 h1 rfl ?_
    exact mW_iret dX11_append_168 rfl (k1 c1)
  · refine mW_iload_n (j := 1) dX11_append_120 rfl rfl ?_
    refine mW_iload_n (j := 3) dX11_append_121 rfl rfl ?_
    refine mW_ishr dX11_append_122 ?_
    refine mW_sipush (v := 255) dX11_append_123 (by decide) ?_
    refine mW_iand dX11_append_126 ?_
    refine mW_istore (lv2 := [(4, .int ((x1 >>> (x3 &&& 31)) &&& 255)), (0, .ref a0), (1, .int x1), (2, .int x2), (3, .int x3)]) dX11_append_127 (by decide) rfl ?_
    refine mW_iload (j := 0) dX11_append_129 rfl ?_
    refine mW_if_ne (tgt := 137) dX11_append_131 (by decide) (fun c2 => ?_) (fun c2 => ?_)
    · refine mW_aload_n (j := 1) dX11_append_137 rfl rfl ?_
      refine mW_getR dX11_append_138 f_X11_27 h1 rfl h2 ?_
      refine mW_aload_n (j := 1) dX11_append_141 rfl rfl ?_
      refine mW_get dX11_append_142 f_X11_146 h1 rfl ?_
      refine mW_iload (j := 0) dX11_append_145 rfl ?_
      refine mW_iastJ dX11_append_147 h3 (s1 c1 c2) rfl ?_
      refine mW_nm (fun w1 e1 => ?_)
      refine mW_aload_n (j := 1) dX11_append_148 rfl rfl ?_
      refine mW_dup dX11_append_149 rfl ?_
      refine mW_get dX11_append_150 f_X11_146 (s2k (S2_sai e1) h1) rfl ?_
      refine mW_iconst (v := 1) dX11_append_153 (by decide) ?_
      refine mW_iadd dX11_append_154 ?_
      refine mW_put (ty := .int) (w2 := sfi w1 a0 8 ((hfi w1 a0 8) + 1)) dX11_append_155 p_X11_146 (s2k (S2_sai e1) h1) (Nat.le_of_ble_eq_true rfl) (by first | rfl | decide | (repeat' split) <;> rfl) rfl (hN_sfi _ _ _ _) (hk_sfi _ _ _ _) (mE_sfi (s2k (S2_sai e1) h1) (by decide) (ob_11_8 _ _ _)) ?_
      refine mW_nm (fun w2 e2 => ?_)
      refine mW_iinc (j := 4) (v := x3 + (-8)) (lv2 := [(3, .int (x3 + (-8))), (4, .int ((x1 >>> (x3 &&& 31)) &&& 255)), (0, .ref a0), (1, .int x1), (2, .int x2)]) dX11_append_158 rfl rfl (by decide) rfl ?_
      refine mW_goto (tgt := 116) dX11_append_161 (by decide) ?_
      refine mW_loc [2, 3, 4, 0] (lv2 := [(0, .ref a0), (1, .int x1), (2, .int x2), (3, .int (x3 + (-8)))]) rfl ?_
      exact k2 c1 c2 w1 e1 w2 e2
    · refine mW_goto (tgt := 158) dX11_append_134 (by decide) ?_
      refine mW_iinc (j := 4) (v := x3 + (-8)) (lv2 := [(3, .int (x3 + (-8))), (4, .int ((x1 >>> (x3 &&& 31)) &&& 255)), (0, .ref a0), (1, .int x1), (2, .int x2)]) dX11_append_158 rfl rfl (by decide) rfl ?_
      refine mW_goto (tgt := 116) dX11_append_161 (by decide) ?_
      refine mW_loc [2, 3, 4, 0] (lv2 := [(0, .ref a0), (1, .int x1), (2, .int x2), (3, .int (x3 + (-8)))]) rfl ?_
      exact k3 c1 c2
/-! bytes of a packed int; append on both sides -/
theorem i64_le {x y : Int32} : x.toInt64 ≤ y.toInt64 ↔ x ≤ y := by rw [Int64.le_iff_toInt_le, Int32.le_iff_toInt_le, Int32.toInt_toInt64, Int32.toInt_toInt64]
theorem i64_lt {x y : Int32} : x.toInt64 < y.toInt64 ↔ x < y := by rw [Int64.lt_iff_toInt_lt, Int32.lt_iff_toInt_lt, Int32.toInt_toInt64, Int32.toInt_toInt64]
theorem i64_eq {x y : Int32} : x.toInt64 = y.toInt64 ↔ x = y := ⟨fun h => by rw [← Int32.toInt_inj, ← Int32.toInt_toInt64, ← Int32.toInt_toInt64, h], fun h => by rw [h]⟩
/-- the reference's bounds are the class's -/
theorem in_eq {x a b : Int32} {A B : Int64} (hA : A = a.toInt64) (hB : B = b.toInt64) : vX11_in x.toInt64 A B = vX10_isWithin x a b := by
  subst hA
  subst hB
  unfold vX11_in vX10_isWithin
  simp only [lg_cmp_lt, lg_cmp_gt, i64_lt]
theorem iw_0 {x a b : Int32} : vX10_isWithin x a b = 0 ↔ ¬ (a ≤ x ∧ x ≤ b) := by
  unfold vX10_isWithin
  by_cases h1 : x < a
  · rw [if_pos h1]; exact ⟨fun _ q => absurd q.1 (Int32.not_le.mpr h1), fun _ => rfl⟩
  · rw [if_neg h1]
    by_cases h2 : b < x
    · rw [if_pos h2]; exact ⟨fun _ q => absurd q.2 (Int32.not_le.mpr h2), fun _ => rfl⟩
    · rw [if_neg h2]; exact ⟨fun h => absurd h (by decide), fun h => absurd ⟨Int32.not_lt.mp h1, Int32.not_lt.mp h2⟩ h⟩
theorem iw_n {x a b : Int32} (h : ¬ vX10_isWithin x a b = 0) : a ≤ x ∧ x ≤ b := Decidable.not_not.mp (fun q => h (iw_0.mpr q))
def bt (x : Int32) (f : Nat) : Int32 := (x >>> (nI (8 * f) &&& 31)) &&& 255
def bN (x : Int32) (f : Nat) : Nat := (bt x f).toNatClampNeg
theorem bt_v (x : Int32) (f : Nat) : bt x f = nI (bN x f) ∧ bN x f < 256 := by
  obtain ⟨j, h1, h2⟩ := pk_andE (x >>> (nI (8 * f) &&& 31)) (m := 255) 8 (by decide)
  have e : bt x f = nI j := h2
  unfold bN
  rw [e, m_cl (by omega)]
  exact ⟨rfl, h1⟩
def sh : Nat → Int32 | 0 => -8 | f + 1 => nI (8 * f)
theorem sh_d : ∀ f, f < 4 → sh (f + 1) + (-8) = sh f := by decide
theorem sh_p : ∀ f, f < 4 → ¬ sh (f + 1) < 0 := by decide
theorem bN_0 {x : Int32} {f : Nat} : bt x f = 0 ↔ bN x f = 0 := by
  rw [(bt_v x f).1, show (0 : Int32) = nI 0 from rfl]
  exact nI_eq (by have := (bt_v x f).2; omega) (by omega)
def alw (x : Int32) : Nat → Int32 | 0 => 1 | f + 1 => if bt x f = 0 then alw x f else if vX10_isWithin (bt x f) 33 126 = 0 then 0 else alw x f
def cnt (x : Int32) : Nat → Nat | 0 => 0 | f + 1 => (if bt x f = 0 then 0 else 1) + cnt x f
def tk (x : Int32) : Nat → (Nat → Nat) → Nat → Nat → Nat | 0, lt, _ => lt | f + 1, lt, n => if bt x f = 0 then tk x f lt n else tk x f (fun i => if i = n then bN x f else lt i) (n + 1)
theorem cnt_le (x : Int32) : ∀ f, cnt x f ≤ f
  | 0 => Nat.le_refl _
  | f + 1 => by have := cnt_le x f; rw [cnt]; split <;> omega
theorem bt_w {x : Int32} {f : Nat} (h : ¬ vX10_isWithin (bt x f) 33 126 = 0) : 33 ≤ bN x f ∧ bN x f ≤ 126 := by
  obtain ⟨h1, h2⟩ := iw_n h
  have := (bt_v x f).2
  rw [(bt_v x f).1] at h1 h2
  exact ⟨(m_le (a := 33) (by omega) (by omega)).mp h1, (m_le (b := 126) (by omega) (by omega)).mp h2⟩
theorem nar_b : ∀ j, j < 256 → vp_nar .char (((nI j).toUInt32 % 65536).toInt32) = nI j := by decide +kernel
def rdL (w : mH) (a : Nat) (lt : Nat → Nat) (n : Nat) : Prop := hfi w a 1 = nI n ∧ n ≤ 50 ∧ ∀ i, i < n → hai w (a + 1) i = nI (lt i) ∧ 33 ≤ lt i ∧ lt i ≤ 126
theorem isAllowed_loop {G : mG} {w : mH} {x : Int32} {Φ : mF} : ∀ f, f ≤ 4 → Φ (.inl (some (.int (alw x f)))) w → mW G mX8_isAllowed 2 0 0 3 [(0, .int x), (1, .int (sh f))] [] w Φ := by
  intro f
  induction f with
  | zero =>
    intro _ hΦ
    refine gX8_isAllowed_3 (fun _ => hΦ) (fun c1 => absurd (by decide) c1) (fun c1 => absurd (by decide) c1) (fun c1 => absurd (by decide) c1)
  | succ f ih =>
    intro hf hΦ
    refine gX8_isAllowed_3 (fun c1 => absurd c1 (sh_p f (by omega))) (fun c1 c2 => ?_) (fun c1 c2 c3 => ?_) (fun c1 c2 c3 => ?_)
    · rw [sh_d f (by omega)]
      refine ih (by omega) ?_
      rw [alw, if_pos (show bt x f = 0 from c2)] at hΦ
      exact hΦ
    · rw [sh_d f (by omega)]
      refine ih (by omega) ?_
      rw [alw, if_neg (show ¬ bt x f = 0 from c2), if_neg (show ¬ vX10_isWithin (bt x f) 33 126 = 0 from c3)] at hΦ
      exact hΦ
    · rw [alw, if_neg (show ¬ bt x f = 0 from c2), if_pos (show vX10_isWithin (bt x f) 33 126 = 0 from c3)] at hΦ
      exact hΦ
theorem rX8_isAllowed {G : mG} {w : mH} {x0 : Int32} : mC G mX8_isAllowed 2 0 0 [.int x0] w (mEq (.inl (some (.int (alw x0 4)))) w) := by
  refine mC_of (by decide +kernel) rfl (Nat.le_of_ble_eq_true rfl) rfl ?_
  exact gX8_isAllowed_0 (isAllowed_loop 4 (by omega) mEq_rf)
theorem hasRoom_loop {G : mG} {w : mH} {a0 n : Nat} {x : Int32} {Φ : mF} (z0 : zRea w a0) (hn : hfi w a0 1 = nI n) (h50 : n ≤ 50) : ∀ f s, s + f ≤ 4 → Φ (.inl (some (.int (if n + (s + cnt x f) ≤ 50 then 1 else 0)))) w → mW G mX8_hasRoomFor 2 0 0 5 [(0, .ref a0), (1, .int x), (2, .int (nI s)), (3, .int (sh f))] [] w Φ := by
  intro f
  induction f with
  | zero =>
    intro s hs hΦ
    have e : (50 : Int32) < hfi w a0 1 + nI s ↔ 50 < n + s := by rw [hn, nI_add]; exact m_lt (a := 50) (by omega) (by omega)
    refine gX8_hasRoomFor_5 z0.1 (fun _ c2 => ?_) (fun _ c2 => ?_) (fun c1 => absurd (by decide) c1) (fun c1 => absurd (by decide) c1)
    · rw [e] at c2
      rw [if_neg (by show ¬ n + (s + 0) ≤ 50; omega)] at hΦ
      exact hΦ
    · rw [e] at c2
      rw [if_pos (by show n + (s + 0) ≤ 50; omega)] at hΦ
      exact hΦ
  | succ f ih =>
    intro s hs hΦ
    refine gX8_hasRoomFor_5 z0.1 (fun c1 => absurd c1 (sh_p f (by omega))) (fun c1 => absurd c1 (sh_p f (by omega))) (fun c1 c3 => ?_) (fun c1 c3 => ?_)
    · rw [sh_d f (by omega)]
      refine ih s (by omega) ?_
      rw [cnt, if_pos (show bt x f = 0 from c3), Nat.zero_add] at hΦ
      exact hΦ
    · rw [sh_d f (by omega), nI_1]
      refine ih (s + 1) (by omega) ?_
      rw [cnt, if_neg (show ¬ bt x f = 0 from c3)] at hΦ
      rw [show s + 1 + cnt x f = s + (1 + cnt x f) by omega]
      exact hΦ
theorem rX8_hasRoomFor {G : mG} {w : mH} {a0 n : Nat} {x1 : Int32} (z0 : zRea w a0) (hn : hfi w a0 1 = nI n) (h50 : n ≤ 50) : mC G mX8_hasRoomFor 2 0 0 [.ref a0, .int x1] w (mEq (.inl (some (.int (if n + cnt x1 4 ≤ 50 then 1 else 0)))) w) := by
  refine mC_of (by decide +kernel) rfl (Nat.le_of_ble_eq_true rfl) rfl ?_
  refine gX8_hasRoomFor_0 (hasRoom_loop z0 hn h50 4 0 (by omega) ?_)
  rw [Nat.zero_add]
  exact mEq_rf
theorem takeIn_loop {G : mG} {w0 : mH} {a0 : Nat} {x : Int32} {Φ : mF} (z0 : zRea w0 a0) : ∀ f lt n w, f ≤ 4 → mFr a0 (a0 + 2) w0 w → hfi w a0 2 = hfi w0 a0 2 → rdL w a0 lt n → n + cnt x f ≤ 50 → ¬ alw x f = 0 →
    (∀ w', mFr a0 (a0 + 2) w0 w' → hfi w' a0 2 = hfi w0 a0 2 → rdL w' a0 (tk x f lt n) (n + cnt x f) → Φ (.inl none) w') → mW G mX8_takeIn 2 0 0 3 [(0, .ref a0), (1, .int x), (2, .int (sh f))] [] w Φ := by
  intro f
  induction f with
  | zero =>
    intro lt n w hf F h2 hL hc ha hΦ
    have hs : mS2 w0 w := mS2.of F.1
    refine gX8_takeIn_3 (zRea_s2 hs z0).1 (zRea_s2 hs z0).2.1 (zRea_s2 hs z0).2.2.2.1 (fun c1 => absurd (by decide) c1) (fun _ => hΦ w F h2 hL) (fun c1 => absurd (by decide) c1) (fun c1 => absurd (by decide) c1) (fun c1 => absurd (by decide) c1)
  | succ f ih =>
    intro lt n w hf F h2 hL hc ha hΦ
    have hs : mS2 w0 w := mS2.of F.1
    have hcl : (hfi w a0 1).toNatClampNeg = n := by rw [hL.1]; have := hL.2.1; exact m_cl (by omega)
    have h50 : (50 : Int32) ≤ hfi w a0 1 ↔ 50 ≤ n := by rw [hL.1]; have := hL.2.1; exact m_le (a := 50) (by omega) (by omega)
    refine gX8_takeIn_3 (zRea_s2 hs z0).1 (zRea_s2 hs z0).2.1 (zRea_s2 hs z0).2.2.2.1 (fun c1 c2 c3 => ?_) (fun c1 => absurd c1 (sh_p f (by omega))) (fun c1 c2 => ?_) (fun c1 c2 c3 => ?_) (fun c1 c2 c3 w1 e1 w2 e2 => ?_)
    · rw [h50] at c3
      rw [hL.1]
      exact m_vp (by omega) (by omega)
    · rw [sh_d f (by omega)]
      rw [cnt, if_pos (show bt x f = 0 from c2), Nat.zero_add] at hc hΦ
      rw [tk, if_pos (show bt x f = 0 from c2)] at hΦ
      rw [alw, if_pos (show bt x f = 0 from c2)] at ha
      exact ih lt n w (by omega) F h2 hL hc ha hΦ
    · rw [h50] at c3
      rw [cnt, if_neg (show ¬ bt x f = 0 from c2)] at hc
      omega
    · rw [sh_d f (by omega)]
      have c2' : ¬ bt x f = 0 := c2
      rw [cnt, if_neg c2'] at hc hΦ
      rw [tk, if_neg c2'] at hΦ
      rw [alw, if_neg c2'] at ha
      have hw : ¬ vX10_isWithin (bt x f) 33 126 = 0 := fun q => by rw [if_pos q] at ha; exact ha rfl
      rw [if_neg hw] at ha
      have hb := bt_w hw
      rw [hcl] at e1
      have e1' : w1 = sai w (a0 + 1) n (nI (bN x f)) := by
        rw [e1]
        congr 1
        have := bt_v x f
        unfold bt at this
        show vp_nar .char ((((x >>> (nI (8 * f) &&& 31)) &&& 255).toUInt32 % 65536).toInt32) = _
        rw [this.1]
        exact nar_b _ this.2
      have F2 : mFr a0 (a0 + 2) w0 w2 := by rw [e2, e1']; exact mFr_sfi (mFr_sai F (by omega) (by omega)) (by omega) (by omega)
      rw [show n + (1 + cnt x f) = n + 1 + cnt x f by omega] at hΦ
      refine ih (fun i => if i = n then bN x f else lt i) (n + 1) w2 (by omega) F2 ?_ ⟨?_, by omega, fun i hi => ?_⟩ (by omega) ha hΦ
      · rw [e2, e_hfi_sfi, up2_k _ _ _ (by decide), e1', e_hfi_sai]; exact h2
      · rw [e2, e_hfi_sfi, up2_at, e1', e_hfi_sai, hL.1, nI_1]
      · rw [e2, e_hai_sfi, e1', e_hai_sai]
        by_cases hin : i = n
        · subst hin
          rw [up2_at]
          show nI (bN x f) = nI (if i = i then bN x f else lt i) ∧ 33 ≤ (if i = i then bN x f else lt i) ∧ (if i = i then bN x f else lt i) ≤ 126
          rw [if_pos rfl]
          exact ⟨rfl, hb⟩
        · rw [up2_k _ _ _ hin]
          simp only [if_neg hin]
          exact hL.2.2 i (by omega)
theorem rX8_takeIn {G : mG} {w : mH} {a0 n : Nat} {x1 : Int32} {lt : Nat → Nat} (z0 : zRea w a0) (hL : rdL w a0 lt n) (hc : n + cnt x1 4 ≤ 50) (ha : ¬ alw x1 4 = 0) : mC G mX8_takeIn 2 0 0 [.ref a0, .int x1] w (mP none (fun w' => mFr a0 (a0 + 2) w w' ∧ hfi w' a0 2 = hfi w a0 2 ∧ rdL w' a0 (tk x1 4 lt n) (n + cnt x1 4))) := by
  refine mC_of (by decide +kernel) rfl (Nat.le_of_ble_eq_true rfl) rfl ?_
  exact gX8_takeIn_0 (takeIn_loop z0 4 lt n w (by omega) mFr.rf rfl hL hc ha (fun w' f h l => mP_of ⟨f, h, l⟩))

