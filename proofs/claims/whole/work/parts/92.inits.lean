theorem mk0_X0 : ∀ (w : mH) (a : Nat), hfi w a = (fun _ => 0) → hfl w a = (fun _ => 0) → hfr w a = (fun _ => none) → ∀ j, j < 4 → defaultValue (tyX0 j) = vp_V (mOb w a 0) j := by
  intro w a h1 h2 h3 j hj
  simp only [mOb, h1, h2, h3]
  revert j
  decide
theorem u425 : (Cond.methodLink "LineFollowerBench$Found" 3 ⟨"java/lang/Object", "<init>", "()V"⟩ : Cond) ∈ mTs := mTs_in 425 (by decide +kernel) (by decide +kernel)
theorem u111 : (Cond.instanceMethod ⟨"java/lang/Object", "<init>", "()V"⟩ : Cond) ∈ mTs := mTs_in 111 (by decide +kernel) (by decide +kernel)
theorem u112 : (Cond.code ⟨"java/lang/Object", "<init>", "()V"⟩ object_method_1_code 1 (none : Option ClassFile.FieldType) : Cond) ∈ mTs := mTs_in 112 (by decide +kernel) (by decide +kernel)
theorem u426 : (Cond.fieldLink "LineFollowerBench$Found" 9 "LineFollowerBench$Found" "isMade" "Z" : Cond) ∈ mTs := mTs_in 426 (by decide +kernel) (by decide +kernel)
theorem p_X0_9 : mPut "LineFollowerBench$Found" 9 0 0 (.boolean) false := ⟨RX0, TX0, 4, "LineFollowerBench$Found", tyX0, rfl, by decide, in_X0, u426, Or.inl rfl, by decide, tyX0_ok, nmX0, by decide +kernel, rfl, fun h => by cases h⟩
theorem u148 : (Cond.arrayClass .int : Cond) ∈ mTs := mTs_in 148 (by decide +kernel) (by decide +kernel)
theorem u429 : (Cond.fieldLink "LineFollowerBench$Found" 15 "LineFollowerBench$Found" "gains" "[I" : Cond) ∈ mTs := mTs_in 429 (by decide +kernel) (by decide +kernel)
theorem p_X0_15 : mPut "LineFollowerBench$Found" 15 0 1 (.array .int) true := ⟨RX0, TX0, 4, "LineFollowerBench$Found", tyX0, rfl, by decide, in_X0, u429, Or.inl rfl, by decide, tyX0_ok, nmX0, by decide +kernel, rfl, fun _ => rfl⟩
theorem ob_0_1 (w : mH) (a : Nat) (v : Option Nat) : mOb (sfr w a 1 v) a 0 = (mOb w a 0).set 1 (va_rf v) := by simp [mOb, hfi_sfr, hfl_sfr, hfr_sfr, up2]
theorem u432 : (Cond.fieldLink "LineFollowerBench$Found" 19 "LineFollowerBench$Found" "cost" "J" : Cond) ∈ mTs := mTs_in 432 (by decide +kernel) (by decide +kernel)
theorem p_X0_19 : mPut "LineFollowerBench$Found" 19 0 2 (.long) false := ⟨RX0, TX0, 4, "LineFollowerBench$Found", tyX0, rfl, by decide, in_X0, u432, Or.inl rfl, by decide, tyX0_ok, nmX0, by decide +kernel, rfl, fun h => by cases h⟩
theorem u435 : (Cond.fieldLink "LineFollowerBench$Found" 23 "LineFollowerBench$Found" "greater" "I" : Cond) ∈ mTs := mTs_in 435 (by decide +kernel) (by decide +kernel)
theorem p_X0_23 : mPut "LineFollowerBench$Found" 23 0 3 (.int) false := ⟨RX0, TX0, 4, "LineFollowerBench$Found", tyX0, rfl, by decide, in_X0, u435, Or.inl rfl, by decide, tyX0_ok, nmX0, by decide +kernel, rfl, fun h => by cases h⟩
abbrev mX0_init : mM := (yX0_init, cX0_init, 1, none, [])
def qX0_init_1 : mQ := qVi (q0 0) 0 0 0
def qX0_init_2 : mQ := qVn qX0_init_1 (16, 3)
def qX0_init_3 : mQ := qVr qX0_init_2 0 1 1
def qX0_init_4 : mQ := qVi qX0_init_3 0 3 0
set_option maxHeartbeats 4000000 in
set_option maxRecDepth 100000 in
theorem iX0_init {G : mG} {b : Nat} {w : mH} : mC G mX0_init 1 1 3 [.ref b] (wR b (q0 0) w) (mEq (.inl none) (wR b qX0_init_4 w)) := by
  refine mC_of (by decide +kernel) rfl (Nat.le_of_ble_eq_true rfl) rfl ?_
  refine mW_aload_n (j := 0) dX0_init_0 rfl rfl ?_
  refine mW_objInit dX0_init_1 u425 u111 u112 (Nat.le_of_ble_eq_true rfl) (by decide) ?_
  refine mW_aload_n (j := 0) dX0_init_4 rfl rfl ?_
  refine mW_iconst (v := 0) dX0_init_5 (by decide) ?_
  refine mW_put (ty := .boolean) (w2 := sfi (wR b (q0 0) w) b 0 0) dX0_init_6 p_X0_9 (R_k (o := 0) (x := (0, 0)) (by decide +kernel) (by decide +kernel)) (Nat.le_of_ble_eq_true rfl) (by first | rfl | decide | (repeat' split) <;> rfl) rfl (hN_sfi _ _ _ _) (hk_sfi _ _ _ _) (mE_sfi (R_k (o := 0) (x := (0, 0)) (by decide +kernel) (by decide +kernel)) (by decide) (ob_0_0 _ _ _)) ?_
  refine mW_ws (st2 := []) (w2 := wR b qX0_init_1 w) rfl (R_I (o := 0) (by decide +kernel)) ?_
  refine mW_aload_n (j := 0) dX0_init_9 rfl rfl ?_
  refine mW_iconst (v := 3) dX0_init_10 (by decide) ?_
  refine mW_newI (N := 3) (kc2 := 0) (ks2 := 0) dX0_init_11 u148 (by decide) rfl (by decide) rfl rfl ?_
  refine mW_ws (st2 := [.ref (b + 1), .ref b]) (w2 := wR b qX0_init_2 w) rfl R_N ?_
  refine mW_putF (ty := .array .int) (w2 := sfr (wR b qX0_init_2 w) b 1 (some (b + 1))) dX0_init_13 p_X0_15 rfl (R_k (o := 0) (x := (0, 0)) (by decide +kernel) (by decide +kernel)) (Nat.le_of_ble_eq_true rfl) (by first | rfl | decide | (repeat' split) <;> rfl) rfl (hN_sfr _ _ _ _) (hk_sfr _ _ _ _) (mE_sfr (R_k (o := 0) (x := (0, 0)) (by decide +kernel) (by decide +kernel)) (by decide) (ob_0_1 _ _ _)) ?_
  refine mW_ws (st2 := []) (w2 := wR b qX0_init_3 w) rfl (R_R (o := 0) (by decide +kernel)) ?_
  refine mW_aload_n (j := 0) dX0_init_16 rfl rfl ?_
  refine mW_lconst (v := 0) dX0_init_17 (by decide) ?_
  refine mW_put (ty := .long) (w2 := sfl (wR b qX0_init_3 w) b 2 0) dX0_init_18 p_X0_19 (R_k (o := 0) (x := (0, 0)) (by decide +kernel) (by decide +kernel)) (Nat.le_of_ble_eq_true rfl) (by first | rfl | decide | (repeat' split) <;> rfl) rfl (hN_sfl _ _ _ _) (hk_sfl _ _ _ _) (mE_sfl (R_k (o := 0) (x := (0, 0)) (by decide +kernel) (by decide +kernel)) (by decide) (ob_0_2 _ _ _)) ?_
  refine mW_ws (st2 := []) (w2 := wR b qX0_init_3 w) rfl (R_L (o := 0) (by decide +kernel)) ?_
  refine mW_aload_n (j := 0) dX0_init_21 rfl rfl ?_
  refine mW_iconst (v := 0) dX0_init_22 (by decide) ?_
  refine mW_put (ty := .int) (w2 := sfi (wR b qX0_init_3 w) b 3 0) dX0_init_23 p_X0_23 (R_k (o := 0) (x := (0, 0)) (by decide +kernel) (by decide +kernel)) (Nat.le_of_ble_eq_true rfl) (by first | rfl | decide | (repeat' split) <;> rfl) rfl (hN_sfi _ _ _ _) (hk_sfi _ _ _ _) (mE_sfi (R_k (o := 0) (x := (0, 0)) (by decide +kernel) (by decide +kernel)) (by decide) (ob_0_3 _ _ _)) ?_
  refine mW_ws (st2 := []) (w2 := wR b qX0_init_4 w) rfl (R_I (o := 0) (by decide +kernel)) ?_
  exact mW_vret dX0_init_26 rfl ⟨rfl, rfl⟩
theorem mk0_X1 : ∀ (w : mH) (a : Nat), hfi w a = (fun _ => 0) → hfl w a = (fun _ => 0) → hfr w a = (fun _ => none) → ∀ j, j < 3 → defaultValue (tyX1 j) = vp_V (mOb w a 1) j := by
  intro w a h1 h2 h3 j hj
  simp only [mOb, h1, h2, h3]
  revert j
  decide
theorem u133 : (Cond.methodLink "LineFollowerBench$Grid" 3 ⟨"java/lang/Object", "<init>", "()V"⟩ : Cond) ∈ mTs := mTs_in 133 (by decide +kernel) (by decide +kernel)
theorem p_X1_9 : mPut "LineFollowerBench$Grid" 9 1 0 (.array .int) true := ⟨RX1, TX1, 3, "LineFollowerBench$Grid", tyX1, rfl, by decide, in_X1, u134, Or.inl rfl, by decide, tyX1_ok, nmX1, by decide +kernel, rfl, fun _ => rfl⟩
theorem ob_1_0 (w : mH) (a : Nat) (v : Option Nat) : mOb (sfr w a 0 v) a 1 = (mOb w a 1).set 0 (va_rf v) := by simp [mOb, hfi_sfr, hfl_sfr, hfr_sfr, up2]
theorem p_X1_15 : mPut "LineFollowerBench$Grid" 15 1 1 (.array .int) true := ⟨RX1, TX1, 3, "LineFollowerBench$Grid", tyX1, rfl, by decide, in_X1, u136, Or.inl rfl, by decide, tyX1_ok, nmX1, by decide +kernel, rfl, fun _ => rfl⟩
theorem ob_1_1 (w : mH) (a : Nat) (v : Option Nat) : mOb (sfr w a 1 v) a 1 = (mOb w a 1).set 1 (va_rf v) := by simp [mOb, hfi_sfr, hfl_sfr, hfr_sfr, up2]
theorem p_X1_18 : mPut "LineFollowerBench$Grid" 18 1 2 (.array .int) true := ⟨RX1, TX1, 3, "LineFollowerBench$Grid", tyX1, rfl, by decide, in_X1, u138, Or.inl rfl, by decide, tyX1_ok, nmX1, by decide +kernel, rfl, fun _ => rfl⟩
theorem ob_1_2 (w : mH) (a : Nat) (v : Option Nat) : mOb (sfr w a 2 v) a 1 = (mOb w a 1).set 2 (va_rf v) := by simp [mOb, hfi_sfr, hfl_sfr, hfr_sfr, up2]
abbrev mX1_init : mM := (yX1_init, cX1_init, 1, none, [])
def qX1_init_1 : mQ := qVn (q0 1) (16, 3)
def qX1_init_2 : mQ := qVa qX1_init_1 1 0 0
def qX1_init_3 : mQ := qVa qX1_init_2 1 1 0
def qX1_init_4 : mQ := qVa qX1_init_3 1 2 0
def qX1_init_5 : mQ := qVr qX1_init_4 0 0 1
def qX1_init_6 : mQ := qVn qX1_init_5 (16, 3)
def qX1_init_7 : mQ := qVa qX1_init_6 2 0 32
def qX1_init_8 : mQ := qVa qX1_init_7 2 1 32
def qX1_init_9 : mQ := qVa qX1_init_8 2 2 32
def qX1_init_10 : mQ := qVr qX1_init_9 0 1 2
def qX1_init_11 : mQ := qVn qX1_init_10 (16, 3)
def qX1_init_12 : mQ := qVa qX1_init_11 3 0 3
def qX1_init_13 : mQ := qVa qX1_init_12 3 1 3
def qX1_init_14 : mQ := qVa qX1_init_13 3 2 3
def qX1_init_15 : mQ := qVr qX1_init_14 0 2 3
set_option maxHeartbeats 4000000 in
set_option maxRecDepth 100000 in
theorem iX1_init {G : mG} {b : Nat} {w : mH} : mC G mX1_init 1 3 9 [.ref b] (wR b (q0 1) w) (mEq (.inl none) (wR b qX1_init_15 w)) := by
  refine mC_of (by decide +kernel) rfl (Nat.le_of_ble_eq_true rfl) rfl ?_
  refine mW_aload_n (j := 0) dX1_init_0 rfl rfl ?_
  refine mW_objInit dX1_init_1 u133 u111 u112 (Nat.le_of_ble_eq_true rfl) (by decide) ?_
  refine mW_aload_n (j := 0) dX1_init_4 rfl rfl ?_
  refine mW_iconst (v := 3) dX1_init_5 (by decide) ?_
  refine mW_newI (N := 3) (kc2 := 2) (ks2 := 6) dX1_init_6 u148 (by decide) rfl (by decide) rfl rfl ?_
  refine mW_ws (st2 := [.ref (b + 1), .ref b]) (w2 := wR b qX1_init_1 w) rfl R_N ?_
  refine mW_dup dX1_init_8 rfl ?_
  refine mW_iconst (v := 0) dX1_init_9 (by decide) ?_
  refine mW_iconst (v := 0) dX1_init_10 (by decide) ?_
  refine mW_iastJ (j := 0) dX1_init_11 (R_k (o := 1) (x := (16, 3)) (by decide +kernel) (by decide +kernel)) (by unfold vp_in; decide) rfl ?_
  refine mW_ws (st2 := [.ref (b + 1), .ref b]) (w2 := wR b qX1_init_2 w) rfl (R_A (by decide +kernel)) ?_
  refine mW_dup dX1_init_12 rfl ?_
  refine mW_iconst (v := 1) dX1_init_13 (by decide) ?_
  refine mW_iconst (v := 0) dX1_init_14 (by decide) ?_
  refine mW_iastJ (j := 1) dX1_init_15 (R_k (o := 1) (x := (16, 3)) (by decide +kernel) (by decide +kernel)) (by unfold vp_in; decide) rfl ?_
  refine mW_ws (st2 := [.ref (b + 1), .ref b]) (w2 := wR b qX1_init_3 w) rfl (R_A (by decide +kernel)) ?_
  refine mW_dup dX1_init_16 rfl ?_
  refine mW_iconst (v := 2) dX1_init_17 (by decide) ?_
  refine mW_iconst (v := 0) dX1_init_18 (by decide) ?_
  refine mW_iastJ (j := 2) dX1_init_19 (R_k (o := 1) (x := (16, 3)) (by decide +kernel) (by decide +kernel)) (by unfold vp_in; decide) rfl ?_
  refine mW_ws (st2 := [.ref (b + 1), .ref b]) (w2 := wR b qX1_init_4 w) rfl (R_A (by decide +kernel)) ?_
  refine mW_putF (ty := .array .int) (w2 := sfr (wR b qX1_init_4 w) b 0 (some (b + 1))) dX1_init_20 p_X1_9 rfl (R_k (o := 0) (x := (1, 0)) (by decide +kernel) (by decide +kernel)) (Nat.le_of_ble_eq_true rfl) (by first | rfl | decide | (repeat' split) <;> rfl) rfl (hN_sfr _ _ _ _) (hk_sfr _ _ _ _) (mE_sfr (R_k (o := 0) (x := (1, 0)) (by decide +kernel) (by decide +kernel)) (by decide) (ob_1_0 _ _ _)) ?_
  refine mW_ws (st2 := []) (w2 := wR b qX1_init_5 w) rfl (R_R (o := 0) (by decide +kernel)) ?_
  refine mW_aload_n (j := 0) dX1_init_23 rfl rfl ?_
  refine mW_iconst (v := 3) dX1_init_24 (by decide) ?_
  refine mW_newI (N := 3) (kc2 := 1) (ks2 := 3) dX1_init_25 u148 (by decide) rfl (by decide) rfl rfl ?_
  refine mW_ws (st2 := [.ref (b + 2), .ref b]) (w2 := wR b qX1_init_6 w) rfl R_N ?_
  refine mW_dup dX1_init_27 rfl ?_
  refine mW_iconst (v := 0) dX1_init_28 (by decide) ?_
  refine mW_bipush (v := 32) dX1_init_29 (by decide) ?_
  refine mW_iastJ (j := 0) dX1_init_31 (R_k (o := 2) (x := (16, 3)) (by decide +kernel) (by decide +kernel)) (by unfold vp_in; decide) rfl ?_
  refine mW_ws (st2 := [.ref (b + 2), .ref b]) (w2 := wR b qX1_init_7 w) rfl (R_A (by decide +kernel)) ?_
  refine mW_dup dX1_init_32 rfl ?_
  refine mW_iconst (v := 1) dX1_init_33 (by decide) ?_
  refine mW_bipush (v := 32) dX1_init_34 (by decide) ?_
  refine mW_iastJ (j := 1) dX1_init_36 (R_k (o := 2) (x := (16, 3)) (by decide +kernel) (by decide +kernel)) (by unfold vp_in; decide) rfl ?_
  refine mW_ws (st2 := [.ref (b + 2), .ref b]) (w2 := wR b qX1_init_8 w) rfl (R_A (by decide +kernel)) ?_
  refine mW_dup dX1_init_37 rfl ?_
  refine mW_iconst (v := 2) dX1_init_38 (by decide) ?_
  refine mW_bipush (v := 32) dX1_init_39 (by decide) ?_
  refine mW_iastJ (j := 2) dX1_init_41 (R_k (o := 2) (x := (16, 3)) (by decide +kernel) (by decide +kernel)) (by unfold vp_in; decide) rfl ?_
  refine mW_ws (st2 := [.ref (b + 2), .ref b]) (w2 := wR b qX1_init_9 w) rfl (R_A (by decide +kernel)) ?_
  refine mW_putF (ty := .array .int) (w2 := sfr (wR b qX1_init_9 w) b 1 (some (b + 2))) dX1_init_42 p_X1_15 rfl (R_k (o := 0) (x := (1, 0)) (by decide +kernel) (by decide +kernel)) (Nat.le_of_ble_eq_true rfl) (by first | rfl | decide | (repeat' split) <;> rfl) rfl (hN_sfr _ _ _ _) (hk_sfr _ _ _ _) (mE_sfr (R_k (o := 0) (x := (1, 0)) (by decide +kernel) (by decide +kernel)) (by decide) (ob_1_1 _ _ _)) ?_
  refine mW_ws (st2 := []) (w2 := wR b qX1_init_10 w) rfl (R_R (o := 0) (by decide +kernel)) ?_
  refine mW_aload_n (j := 0) dX1_init_45 rfl rfl ?_
  refine mW_iconst (v := 3) dX1_init_46 (by decide) ?_
  refine mW_newI (N := 3) (kc2 := 0) (ks2 := 0) dX1_init_47 u148 (by decide) rfl (by decide) rfl rfl ?_
  refine mW_ws (st2 := [.ref (b + 3), .ref b]) (w2 := wR b qX1_init_11 w) rfl R_N ?_
  refine mW_dup dX1_init_49 rfl ?_
  refine mW_iconst (v := 0) dX1_init_50 (by decide) ?_
  refine mW_iconst (v := 3) dX1_init_51 (by decide) ?_
  refine mW_iastJ (j := 0) dX1_init_52 (R_k (o := 3) (x := (16, 3)) (by decide +kernel) (by decide +kernel)) (by unfold vp_in; decide) rfl ?_
  refine mW_ws (st2 := [.ref (b + 3), .ref b]) (w2 := wR b qX1_init_12 w) rfl (R_A (by decide +kernel)) ?_
  refine mW_dup dX1_init_53 rfl ?_
  refine mW_iconst (v := 1) dX1_init_54 (by decide) ?_
  refine mW_iconst (v := 3) dX1_init_55 (by decide) ?_
  refine mW_iastJ (j := 1) dX1_init_56 (R_k (o := 3) (x := (16, 3)) (by decide +kernel) (by decide +kernel)) (by unfold vp_in; decide) rfl ?_
  refine mW_ws (st2 := [.ref (b + 3), .ref b]) (w2 := wR b qX1_init_13 w) rfl (R_A (by decide +kernel)) ?_
  refine mW_dup dX1_init_57 rfl ?_
  refine mW_iconst (v := 2) dX1_init_58 (by decide) ?_
  refine mW_iconst (v := 3) dX1_init_59 (by decide) ?_
  refine mW_iastJ (j := 2) dX1_init_60 (R_k (o := 3) (x := (16, 3)) (by decide +kernel) (by decide +kernel)) (by unfold vp_in; decide) rfl ?_
  refine mW_ws (st2 := [.ref (b + 3), .ref b]) (w2 := wR b qX1_init_14 w) rfl (R_A (by decide +kernel)) ?_
  refine mW_putF (ty := .array .int) (w2 := sfr (wR b qX1_init_14 w) b 2 (some (b + 3))) dX1_init_61 p_X1_18 rfl (R_k (o := 0) (x := (1, 0)) (by decide +kernel) (by decide +kernel)) (Nat.le_of_ble_eq_true rfl) (by first | rfl | decide | (repeat' split) <;> rfl) rfl (hN_sfr _ _ _ _) (hk_sfr _ _ _ _) (mE_sfr (R_k (o := 0) (x := (1, 0)) (by decide +kernel) (by decide +kernel)) (by decide) (ob_1_2 _ _ _)) ?_
  refine mW_ws (st2 := []) (w2 := wR b qX1_init_15 w) rfl (R_R (o := 0) (by decide +kernel)) ?_
  exact mW_vret dX1_init_64 rfl ⟨rfl, rfl⟩
theorem mk0_X5 : ∀ (w : mH) (a : Nat), hfi w a = (fun _ => 0) → hfl w a = (fun _ => 0) → hfr w a = (fun _ => none) → ∀ j, j < 3 → defaultValue (tyX5 j) = vp_V (mOb w a 5) j := by
  intro w a h1 h2 h3 j hj
  simp only [mOb, h1, h2, h3]
  revert j
  decide
theorem u154 : (Cond.methodLink "LineFollowerBench$Table" 3 ⟨"java/lang/Object", "<init>", "()V"⟩ : Cond) ∈ mTs := mTs_in 154 (by decide +kernel) (by decide +kernel)
theorem p_X5_9 : mPut "LineFollowerBench$Table" 9 5 0 (.array .int) true := ⟨RX5, TX5, 3, "LineFollowerBench$Table", tyX5, rfl, by decide, in_X5, u155, Or.inl rfl, by decide, tyX5_ok, nmX5, by decide +kernel, rfl, fun _ => rfl⟩
theorem ob_5_0 (w : mH) (a : Nat) (v : Option Nat) : mOb (sfr w a 0 v) a 5 = (mOb w a 5).set 0 (va_rf v) := by simp [mOb, hfi_sfr, hfl_sfr, hfr_sfr, up2]
theorem p_X5_15 : mPut "LineFollowerBench$Table" 15 5 1 (.array .int) true := ⟨RX5, TX5, 3, "LineFollowerBench$Table", tyX5, rfl, by decide, in_X5, u157, Or.inl rfl, by decide, tyX5_ok, nmX5, by decide +kernel, rfl, fun _ => rfl⟩
theorem ob_5_1 (w : mH) (a : Nat) (v : Option Nat) : mOb (sfr w a 1 v) a 5 = (mOb w a 5).set 1 (va_rf v) := by simp [mOb, hfi_sfr, hfl_sfr, hfr_sfr, up2]
abbrev mX5_init : mM := (yX5_init, cX5_init, 1, none, [])
def qX5_init_1 : mQ := qVn (q0 5) (16, 5)
def qX5_init_2 : mQ := qVr qX5_init_1 0 0 1
def qX5_init_3 : mQ := qVn qX5_init_2 (16, 5)
def qX5_init_4 : mQ := qVr qX5_init_3 0 1 2
def qX5_init_5 : mQ := qVi qX5_init_4 0 2 0
set_option maxHeartbeats 4000000 in
set_option maxRecDepth 100000 in
theorem iX5_init {G : mG} {b : Nat} {w : mH} : mC G mX5_init 1 2 10 [.ref b] (wR b (q0 5) w) (mEq (.inl none) (wR b qX5_init_5 w)) := by
  refine mC_of (by decide +kernel) rfl (Nat.le_of_ble_eq_true rfl) rfl ?_
  refine mW_aload_n (j := 0) dX5_init_0 rfl rfl ?_
  refine mW_objInit dX5_init_1 u154 u111 u112 (Nat.le_of_ble_eq_true rfl) (by decide) ?_
  refine mW_aload_n (j := 0) dX5_init_4 rfl rfl ?_
  refine mW_iconst (v := 5) dX5_init_5 (by decide) ?_
  refine mW_newI (N := 5) (kc2 := 1) (ks2 := 5) dX5_init_6 u148 (by decide) rfl (by decide) rfl rfl ?_
  refine mW_ws (st2 := [.ref (b + 1), .ref b]) (w2 := wR b qX5_init_1 w) rfl R_N ?_
  refine mW_putF (ty := .array .int) (w2 := sfr (wR b qX5_init_1 w) b 0 (some (b + 1))) dX5_init_8 p_X5_9 rfl (R_k (o := 0) (x := (5, 0)) (by decide +kernel) (by decide +kernel)) (Nat.le_of_ble_eq_true rfl) (by first | rfl | decide | (repeat' split) <;> rfl) rfl (hN_sfr _ _ _ _) (hk_sfr _ _ _ _) (mE_sfr (R_k (o := 0) (x := (5, 0)) (by decide +kernel) (by decide +kernel)) (by decide) (ob_5_0 _ _ _)) ?_
  refine mW_ws (st2 := []) (w2 := wR b qX5_init_2 w) rfl (R_R (o := 0) (by decide +kernel)) ?_
  refine mW_aload_n (j := 0) dX5_init_11 rfl rfl ?_
  refine mW_iconst (v := 5) dX5_init_12 (by decide) ?_
  refine mW_newI (N := 5) (kc2 := 0) (ks2 := 0) dX5_init_13 u148 (by decide) rfl (by decide) rfl rfl ?_
  refine mW_ws (st2 := [.ref (b + 2), .ref b]) (w2 := wR b qX5_init_3 w) rfl R_N ?_
  refine mW_putF (ty := .array .int) (w2 := sfr (wR b qX5_init_3 w) b 1 (some (b + 2))) dX5_init_15 p_X5_15 rfl (R_k (o := 0) (x := (5, 0)) (by decide +kernel) (by decide +kernel)) (Nat.le_of_ble_eq_true rfl) (by first | rfl | decide | (repeat' split) <;> rfl) rfl (hN_sfr _ _ _ _) (hk_sfr _ _ _ _) (mE_sfr (R_k (o := 0) (x := (5, 0)) (by decide +kernel) (by decide +kernel)) (by decide) (ob_5_1 _ _ _)) ?_
  refine mW_ws (st2 := []) (w2 := wR b qX5_init_4 w) rfl (R_R (o := 0) (by decide +kernel)) ?_
  refine mW_aload_n (j := 0) dX5_init_18 rfl rfl ?_
  refine mW_iconst (v := 0) dX5_init_19 (by decide) ?_
  refine mW_put (ty := .int) (w2 := sfi (wR b qX5_init_4 w) b 2 0) dX5_init_20 p_X5_18 (R_k (o := 0) (x := (5, 0)) (by decide +kernel) (by decide +kernel)) (Nat.le_of_ble_eq_true rfl) (by first | rfl | decide | (repeat' split) <;> rfl) rfl (hN_sfi _ _ _ _) (hk_sfi _ _ _ _) (mE_sfi (R_k (o := 0) (x := (5, 0)) (by decide +kernel) (by decide +kernel)) (by decide) (ob_5_2 _ _ _)) ?_
  refine mW_ws (st2 := []) (w2 := wR b qX5_init_5 w) rfl (R_I (o := 0) (by decide +kernel)) ?_
  exact mW_vret dX5_init_23 rfl ⟨rfl, rfl⟩
theorem mk0_X7 : ∀ (w : mH) (a : Nat), hfi w a = (fun _ => 0) → hfl w a = (fun _ => 0) → hfr w a = (fun _ => none) → ∀ j, j < 8 → defaultValue (tyX7 j) = vp_V (mOb w a 7) j := by
  intro w a h1 h2 h3 j hj
  simp only [mOb, h1, h2, h3]
  revert j
  decide
theorem u173 : (Cond.methodLink "LineFollowerBench$Track" 3 ⟨"java/lang/Object", "<init>", "()V"⟩ : Cond) ∈ mTs := mTs_in 173 (by decide +kernel) (by decide +kernel)
theorem p_X7_9 : mPut "LineFollowerBench$Track" 9 7 0 (.array .int) true := ⟨RX7, TX7, 8, "LineFollowerBench$Track", tyX7, rfl, by decide, in_X7, u174, Or.inl rfl, by decide, tyX7_ok, nmX7, by decide +kernel, rfl, fun _ => rfl⟩
theorem ob_7_0 (w : mH) (a : Nat) (v : Option Nat) : mOb (sfr w a 0 v) a 7 = (mOb w a 7).set 0 (va_rf v) := by simp [mOb, hfi_sfr, hfl_sfr, hfr_sfr, up2]
theorem p_X7_15 : mPut "LineFollowerBench$Track" 15 7 1 (.array .int) true := ⟨RX7, TX7, 8, "LineFollowerBench$Track", tyX7, rfl, by decide, in_X7, u175, Or.inl rfl, by decide, tyX7_ok, nmX7, by decide +kernel, rfl, fun _ => rfl⟩
theorem ob_7_1 (w : mH) (a : Nat) (v : Option Nat) : mOb (sfr w a 1 v) a 7 = (mOb w a 7).set 1 (va_rf v) := by simp [mOb, hfi_sfr, hfl_sfr, hfr_sfr, up2]
theorem p_X7_18 : mPut "LineFollowerBench$Track" 18 7 2 (.array .int) true := ⟨RX7, TX7, 8, "LineFollowerBench$Track", tyX7, rfl, by decide, in_X7, u176, Or.inl rfl, by decide, tyX7_ok, nmX7, by decide +kernel, rfl, fun _ => rfl⟩
theorem ob_7_2 (w : mH) (a : Nat) (v : Option Nat) : mOb (sfr w a 2 v) a 7 = (mOb w a 7).set 2 (va_rf v) := by simp [mOb, hfi_sfr, hfl_sfr, hfr_sfr, up2]
theorem p_X7_25 : mPut "LineFollowerBench$Track" 25 7 4 (.array .int) true := ⟨RX7, TX7, 8, "LineFollowerBench$Track", tyX7, rfl, by decide, in_X7, u179, Or.inl rfl, by decide, tyX7_ok, nmX7, by decide +kernel, rfl, fun _ => rfl⟩
theorem ob_7_4 (w : mH) (a : Nat) (v : Option Nat) : mOb (sfr w a 4 v) a 7 = (mOb w a 7).set 4 (va_rf v) := by simp [mOb, hfi_sfr, hfl_sfr, hfr_sfr, up2]
theorem p_X7_28 : mPut "LineFollowerBench$Track" 28 7 5 (.array .int) true := ⟨RX7, TX7, 8, "LineFollowerBench$Track", tyX7, rfl, by decide, in_X7, u180, Or.inl rfl, by decide, tyX7_ok, nmX7, by decide +kernel, rfl, fun _ => rfl⟩
theorem ob_7_5 (w : mH) (a : Nat) (v : Option Nat) : mOb (sfr w a 5 v) a 7 = (mOb w a 7).set 5 (va_rf v) := by simp [mOb, hfi_sfr, hfl_sfr, hfr_sfr, up2]
theorem p_X7_31 : mPut "LineFollowerBench$Track" 31 7 6 (.array .int) true := ⟨RX7, TX7, 8, "LineFollowerBench$Track", tyX7, rfl, by decide, in_X7, u181, Or.inl rfl, by decide, tyX7_ok, nmX7, by decide +kernel, rfl, fun _ => rfl⟩
theorem ob_7_6 (w : mH) (a : Nat) (v : Option Nat) : mOb (sfr w a 6 v) a 7 = (mOb w a 7).set 6 (va_rf v) := by simp [mOb, hfi_sfr, hfl_sfr, hfr_sfr, up2]
abbrev mX7_init : mM := (yX7_init, cX7_init, 1, none, [])
def qX7_init_1 : mQ := qVn (q0 7) (16, 8)
def qX7_init_2 : mQ := qVr qX7_init_1 0 0 1
def qX7_init_3 : mQ := qVn qX7_init_2 (16, 8)
def qX7_init_4 : mQ := qVr qX7_init_3 0 1 2
def qX7_init_5 : mQ := qVn qX7_init_4 (16, 8)
def qX7_init_6 : mQ := qVr qX7_init_5 0 2 3
def qX7_init_7 : mQ := qVi qX7_init_6 0 3 0
def qX7_init_8 : mQ := qVn qX7_init_7 (16, 4)
def qX7_init_9 : mQ := qVr qX7_init_8 0 4 4
def qX7_init_10 : mQ := qVn qX7_init_9 (16, 4)
def qX7_init_11 : mQ := qVr qX7_init_10 0 5 5
def qX7_init_12 : mQ := qVn qX7_init_11 (16, 4)
def qX7_init_13 : mQ := qVr qX7_init_12 0 6 6
def qX7_init_14 : mQ := qVi qX7_init_13 0 7 0
set_option maxHeartbeats 4000000 in
set_option maxRecDepth 100000 in
theorem iX7_init {G : mG} {b : Nat} {w : mH} : mC G mX7_init 1 6 36 [.ref b] (wR b (q0 7) w) (mEq (.inl none) (wR b qX7_init_14 w)) := by
  refine mC_of (by decide +kernel) rfl (Nat.le_of_ble_eq_true rfl) rfl ?_
  refine mW_aload_n (j := 0) dX7_init_0 rfl rfl ?_
  refine mW_objInit dX7_init_1 u173 u111 u112 (Nat.le_of_ble_eq_true rfl) (by decide) ?_
  refine mW_aload_n (j := 0) dX7_init_4 rfl rfl ?_
  refine mW_bipush (v := 8) dX7_init_5 (by decide) ?_
  refine mW_newI (N := 8) (kc2 := 5) (ks2 := 28) dX7_init_7 u148 (by decide) rfl (by decide) rfl rfl ?_
  refine mW_ws (st2 := [.ref (b + 1), .ref b]) (w2 := wR b qX7_init_1 w) rfl R_N ?_
  refine mW_putF (ty := .array .int) (w2 := sfr (wR b qX7_init_1 w) b 0 (some (b + 1))) dX7_init_9 p_X7_9 rfl (R_k (o := 0) (x := (7, 0)) (by decide +kernel) (by decide +kernel)) (Nat.le_of_ble_eq_true rfl) (by first | rfl | decide | (repeat' split) <;> rfl) rfl (hN_sfr _ _ _ _) (hk_sfr _ _ _ _) (mE_sfr (R_k (o := 0) (x := (7, 0)) (by decide +kernel) (by decide +kernel)) (by decide) (ob_7_0 _ _ _)) ?_
  refine mW_ws (st2 := []) (w2 := wR b qX7_init_2 w) rfl (R_R (o := 0) (by decide +kernel)) ?_
  refine mW_aload_n (j := 0) dX7_init_12 rfl rfl ?_
  refine mW_bipush (v := 8) dX7_init_13 (by decide) ?_
  refine mW_newI (N := 8) (kc2 := 4) (ks2 := 20) dX7_init_15 u148 (by decide) rfl (by decide) rfl rfl ?_
  refine mW_ws (st2 := [.ref (b + 2), .ref b]) (w2 := wR b qX7_init_3 w) rfl R_N ?_
  refine mW_putF (ty := .array .int) (w2 := sfr (wR b qX7_init_3 w) b 1 (some (b + 2))) dX7_init_17 p_X7_15 rfl (R_k (o := 0) (x := (7, 0)) (by decide +kernel) (by decide +kernel)) (Nat.le_of_ble_eq_true rfl) (by first | rfl | decide | (repeat' split) <;> rfl) rfl (hN_sfr _ _ _ _) (hk_sfr _ _ _ _) (mE_sfr (R_k (o := 0) (x := (7, 0)) (by decide +kernel) (by decide +kernel)) (by decide) (ob_7_1 _ _ _)) ?_
  refine mW_ws (st2 := []) (w2 := wR b qX7_init_4 w) rfl (R_R (o := 0) (by decide +kernel)) ?_
  refine mW_aload_n (j := 0) dX7_init_20 rfl rfl ?_
  refine mW_bipush (v := 8) dX7_init_21 (by decide) ?_
  refine mW_newI (N := 8) (kc2 := 3) (ks2 := 12) dX7_init_23 u148 (by decide) rfl (by decide) rfl rfl ?_
  refine mW_ws (st2 := [.ref (b + 3), .ref b]) (w2 := wR b qX7_init_5 w) rfl R_N ?_
  refine mW_putF (ty := .array .int) (w2 := sfr (wR b qX7_init_5 w) b 2 (some (b + 3))) dX7_init_25 p_X7_18 rfl (R_k (o := 0) (x := (7, 0)) (by decide +kernel) (by decide +kernel)) (Nat.le_of_ble_eq_true rfl) (by first | rfl | decide | (repeat' split) <;> rfl) rfl (hN_sfr _ _ _ _) (hk_sfr _ _ _ _) (mE_sfr (R_k (o := 0) (x := (7, 0)) (by decide +kernel) (by decide +kernel)) (by decide) (ob_7_2 _ _ _)) ?_
  refine mW_ws (st2 := []) (w2 := wR b qX7_init_6 w) rfl (R_R (o := 0) (by decide +kernel)) ?_
  refine mW_aload_n (j := 0) dX7_init_28 rfl rfl ?_
  refine mW_iconst (v := 0) dX7_init_29 (by decide) ?_
  refine mW_put (ty := .int) (w2 := sfi (wR b qX7_init_6 w) b 3 0) dX7_init_30 p_X7_21 (R_k (o := 0) (x := (7, 0)) (by decide +kernel) (by decide +kernel)) (Nat.le_of_ble_eq_true rfl) (by first | rfl | decide | (repeat' split) <;> rfl) rfl (hN_sfi _ _ _ _) (hk_sfi _ _ _ _) (mE_sfi (R_k (o := 0) (x := (7, 0)) (by decide +kernel) (by decide +kernel)) (by decide) (ob_7_3 _ _ _)) ?_
  refine mW_ws (st2 := []) (w2 := wR b qX7_init_7 w) rfl (R_I (o := 0) (by decide +kernel)) ?_
  refine mW_aload_n (j := 0) dX7_init_33 rfl rfl ?_
  refine mW_iconst (v := 4) dX7_init_34 (by decide) ?_
  refine mW_newI (N := 4) (kc2 := 2) (ks2 := 8) dX7_init_35 u148 (by decide) rfl (by decide) rfl rfl ?_
  refine mW_ws (st2 := [.ref (b + 4), .ref b]) (w2 := wR b qX7_init_8 w) rfl R_N ?_
  refine mW_putF (ty := .array .int) (w2 := sfr (wR b qX7_init_8 w) b 4 (some (b + 4))) dX7_init_37 p_X7_25 rfl (R_k (o := 0) (x := (7, 0)) (by decide +kernel) (by decide +kernel)) (Nat.le_of_ble_eq_true rfl) (by first | rfl | decide | (repeat' split) <;> rfl) rfl (hN_sfr _ _ _ _) (hk_sfr _ _ _ _) (mE_sfr (R_k (o := 0) (x := (7, 0)) (by decide +kernel) (by decide +kernel)) (by decide) (ob_7_4 _ _ _)) ?_
  refine mW_ws (st2 := []) (w2 := wR b qX7_init_9 w) rfl (R_R (o := 0) (by decide +kernel)) ?_
  refine mW_aload_n (j := 0) dX7_init_40 rfl rfl ?_
  refine mW_iconst (v := 4) dX7_init_41 (by decide) ?_
  refine mW_newI (N := 4) (kc2 := 1) (ks2 := 4) dX7_init_42 u148 (by decide) rfl (by decide) rfl rfl ?_
  refine mW_ws (st2 := [.ref (b + 5), .ref b]) (w2 := wR b qX7_init_10 w) rfl R_N ?_
  refine mW_putF (ty := .array .int) (w2 := sfr (wR b qX7_init_10 w) b 5 (some (b + 5))) dX7_init_44 p_X7_28 rfl (R_k (o := 0) (x := (7, 0)) (by decide +kernel) (by decide +kernel)) (Nat.le_of_ble_eq_true rfl) (by first | rfl | decide | (repeat' split) <;> rfl) rfl (hN_sfr _ _ _ _) (hk_sfr _ _ _ _) (mE_sfr (R_k (o := 0) (x := (7, 0)) (by decide +kernel) (by decide +kernel)) (by decide) (ob_7_5 _ _ _)) ?_
  refine mW_ws (st2 := []) (w2 := wR b qX7_init_11 w) rfl (R_R (o := 0) (by decide +kernel)) ?_
  refine mW_aload_n (j := 0) dX7_init_47 rfl rfl ?_
  refine mW_iconst (v := 4) dX7_init_48 (by decide) ?_
  refine mW_newI (N := 4) (kc2 := 0) (ks2 := 0) dX7_init_49 u148 (by decide) rfl (by decide) rfl rfl ?_
  refine mW_ws (st2 := [.ref (b + 6), .ref b]) (w2 := wR b qX7_init_12 w) rfl R_N ?_
  refine mW_putF (ty := .array .int) (w2 := sfr (wR b qX7_init_12 w) b 6 (some (b + 6))) dX7_init_51 p_X7_31 rfl (R_k (o := 0) (x := (7, 0)) (by decide +kernel) (by decide +kernel)) (Nat.le_of_ble_eq_true rfl) (by first | rfl | decide | (repeat' split) <;> rfl) rfl (hN_sfr _ _ _ _) (hk_sfr _ _ _ _) (mE_sfr (R_k (o := 0) (x := (7, 0)) (by decide +kernel) (by decide +kernel)) (by decide) (ob_7_6 _ _ _)) ?_
  refine mW_ws (st2 := []) (w2 := wR b qX7_init_13 w) rfl (R_R (o := 0) (by decide +kernel)) ?_
  refine mW_aload_n (j := 0) dX7_init_54 rfl rfl ?_
  refine mW_iconst (v := 0) dX7_init_55 (by decide) ?_
  refine mW_put (ty := .int) (w2 := sfi (wR b qX7_init_13 w) b 7 0) dX7_init_56 p_X7_34 (R_k (o := 0) (x := (7, 0)) (by decide +kernel) (by decide +kernel)) (Nat.le_of_ble_eq_true rfl) (by first | rfl | decide | (repeat' split) <;> rfl) rfl (hN_sfi _ _ _ _) (hk_sfi _ _ _ _) (mE_sfi (R_k (o := 0) (x := (7, 0)) (by decide +kernel) (by decide +kernel)) (by decide) (ob_7_7 _ _ _)) ?_
  refine mW_ws (st2 := []) (w2 := wR b qX7_init_14 w) rfl (R_I (o := 0) (by decide +kernel)) ?_
  exact mW_vret dX7_init_59 rfl ⟨rfl, rfl⟩
theorem mk0_X6 : ∀ (w : mH) (a : Nat), hfi w a = (fun _ => 0) → hfl w a = (fun _ => 0) → hfr w a = (fun _ => none) → ∀ j, j < 7 → defaultValue (tyX6 j) = vp_V (mOb w a 6) j := by
  intro w a h1 h2 h3 j hj
  simp only [mOb, h1, h2, h3]
  revert j
  decide
theorem u363 : (Cond.methodLink "LineFollowerBench$Trace" 3 ⟨"java/lang/Object", "<init>", "()V"⟩ : Cond) ∈ mTs := mTs_in 363 (by decide +kernel) (by decide +kernel)
theorem p_X6_9 : mPut "LineFollowerBench$Trace" 9 6 0 (.array .int) true := ⟨RX6, TX6, 7, "LineFollowerBench$Trace", tyX6, rfl, by decide, in_X6, u364, Or.inl rfl, by decide, tyX6_ok, nmX6, by decide +kernel, rfl, fun _ => rfl⟩
theorem ob_6_0 (w : mH) (a : Nat) (v : Option Nat) : mOb (sfr w a 0 v) a 6 = (mOb w a 6).set 0 (va_rf v) := by simp [mOb, hfi_sfr, hfl_sfr, hfr_sfr, up2]
theorem p_X6_15 : mPut "LineFollowerBench$Trace" 15 6 1 (.array .int) true := ⟨RX6, TX6, 7, "LineFollowerBench$Trace", tyX6, rfl, by decide, in_X6, u366, Or.inl rfl, by decide, tyX6_ok, nmX6, by decide +kernel, rfl, fun _ => rfl⟩
theorem ob_6_1 (w : mH) (a : Nat) (v : Option Nat) : mOb (sfr w a 1 v) a 6 = (mOb w a 6).set 1 (va_rf v) := by simp [mOb, hfi_sfr, hfl_sfr, hfr_sfr, up2]
theorem p_X6_18 : mPut "LineFollowerBench$Trace" 18 6 2 (.array .int) true := ⟨RX6, TX6, 7, "LineFollowerBench$Trace", tyX6, rfl, by decide, in_X6, u369, Or.inl rfl, by decide, tyX6_ok, nmX6, by decide +kernel, rfl, fun _ => rfl⟩
theorem ob_6_2 (w : mH) (a : Nat) (v : Option Nat) : mOb (sfr w a 2 v) a 6 = (mOb w a 6).set 2 (va_rf v) := by simp [mOb, hfi_sfr, hfl_sfr, hfr_sfr, up2]
theorem p_X6_21 : mPut "LineFollowerBench$Trace" 21 6 3 (.array .int) true := ⟨RX6, TX6, 7, "LineFollowerBench$Trace", tyX6, rfl, by decide, in_X6, u371, Or.inl rfl, by decide, tyX6_ok, nmX6, by decide +kernel, rfl, fun _ => rfl⟩
theorem ob_6_3 (w : mH) (a : Nat) (v : Option Nat) : mOb (sfr w a 3 v) a 6 = (mOb w a 6).set 3 (va_rf v) := by simp [mOb, hfi_sfr, hfl_sfr, hfr_sfr, up2]
theorem p_X6_24 : mPut "LineFollowerBench$Trace" 24 6 4 (.array .int) true := ⟨RX6, TX6, 7, "LineFollowerBench$Trace", tyX6, rfl, by decide, in_X6, u373, Or.inl rfl, by decide, tyX6_ok, nmX6, by decide +kernel, rfl, fun _ => rfl⟩
theorem ob_6_4 (w : mH) (a : Nat) (v : Option Nat) : mOb (sfr w a 4 v) a 6 = (mOb w a 6).set 4 (va_rf v) := by simp [mOb, hfi_sfr, hfl_sfr, hfr_sfr, up2]
theorem p_X6_27 : mPut "LineFollowerBench$Trace" 27 6 5 (.array .int) true := ⟨RX6, TX6, 7, "LineFollowerBench$Trace", tyX6, rfl, by decide, in_X6, u376, Or.inl rfl, by decide, tyX6_ok, nmX6, by decide +kernel, rfl, fun _ => rfl⟩
theorem ob_6_5 (w : mH) (a : Nat) (v : Option Nat) : mOb (sfr w a 5 v) a 6 = (mOb w a 6).set 5 (va_rf v) := by simp [mOb, hfi_sfr, hfl_sfr, hfr_sfr, up2]
abbrev mX6_init : mM := (yX6_init, cX6_init, 1, none, [])
def qX6_init_1 : mQ := qVn (q0 6) (16, 201)
def qX6_init_2 : mQ := qVr qX6_init_1 0 0 1
def qX6_init_3 : mQ := qVn qX6_init_2 (16, 200)
def qX6_init_4 : mQ := qVr qX6_init_3 0 1 2
def qX6_init_5 : mQ := qVn qX6_init_4 (16, 200)
def qX6_init_6 : mQ := qVr qX6_init_5 0 2 3
def qX6_init_7 : mQ := qVn qX6_init_6 (16, 200)
def qX6_init_8 : mQ := qVr qX6_init_7 0 3 4
def qX6_init_9 : mQ := qVn qX6_init_8 (16, 200)
def qX6_init_10 : mQ := qVr qX6_init_9 0 4 5
def qX6_init_11 : mQ := qVn qX6_init_10 (16, 200)
def qX6_init_12 : mQ := qVr qX6_init_11 0 5 6
def qX6_init_13 : mQ := qVi qX6_init_12 0 6 0
set_option maxHeartbeats 4000000 in
set_option maxRecDepth 100000 in
theorem iX6_init {G : mG} {b : Nat} {w : mH} : mC G mX6_init 1 6 1201 [.ref b] (wR b (q0 6) w) (mEq (.inl none) (wR b qX6_init_13 w)) := by
  refine mC_of (by decide +kernel) rfl (Nat.le_of_ble_eq_true rfl) rfl ?_
  refine mW_aload_n (j := 0) dX6_init_0 rfl rfl ?_
  refine mW_objInit dX6_init_1 u363 u111 u112 (Nat.le_of_ble_eq_true rfl) (by decide) ?_
  refine mW_aload_n (j := 0) dX6_init_4 rfl rfl ?_
  refine mW_sipush (v := 201) dX6_init_5 (by decide) ?_
  refine mW_newI (N := 201) (kc2 := 5) (ks2 := 1000) dX6_init_8 u148 (by decide) rfl (by decide) rfl rfl ?_
  refine mW_ws (st2 := [.ref (b + 1), .ref b]) (w2 := wR b qX6_init_1 w) rfl R_N ?_
  refine mW_putF (ty := .array .int) (w2 := sfr (wR b qX6_init_1 w) b 0 (some (b + 1))) dX6_init_10 p_X6_9 rfl (R_k (o := 0) (x := (6, 0)) (by decide +kernel) (by decide +kernel)) (Nat.le_of_ble_eq_true rfl) (by first | rfl | decide | (repeat' split) <;> rfl) rfl (hN_sfr _ _ _ _) (hk_sfr _ _ _ _) (mE_sfr (R_k (o := 0) (x := (6, 0)) (by decide +kernel) (by decide +kernel)) (by decide) (ob_6_0 _ _ _)) ?_
  refine mW_ws (st2 := []) (w2 := wR b qX6_init_2 w) rfl (R_R (o := 0) (by decide +kernel)) ?_
  refine mW_aload_n (j := 0) dX6_init_13 rfl rfl ?_
  refine mW_sipush (v := 200) dX6_init_14 (by decide) ?_
  refine mW_newI (N := 200) (kc2 := 4) (ks2 := 800) dX6_init_17 u148 (by decide) rfl (by decide) rfl rfl ?_
  refine mW_ws (st2 := [.ref (b + 2), .ref b]) (w2 := wR b qX6_init_3 w) rfl R_N ?_
  refine mW_putF (ty := .array .int) (w2 := sfr (wR b qX6_init_3 w) b 1 (some (b + 2))) dX6_init_19 p_X6_15 rfl (R_k (o := 0) (x := (6, 0)) (by decide +kernel) (by decide +kernel)) (Nat.le_of_ble_eq_true rfl) (by first | rfl | decide | (repeat' split) <;> rfl) rfl (hN_sfr _ _ _ _) (hk_sfr _ _ _ _) (mE_sfr (R_k (o := 0) (x := (6, 0)) (by decide +kernel) (by decide +kernel)) (by decide) (ob_6_1 _ _ _)) ?_
  refine mW_ws (st2 := []) (w2 := wR b qX6_init_4 w) rfl (R_R (o := 0) (by decide +kernel)) ?_
  refine mW_aload_n (j := 0) dX6_init_22 rfl rfl ?_
  refine mW_sipush (v := 200) dX6_init_23 (by decide) ?_
  refine mW_newI (N := 200) (kc2 := 3) (ks2 := 600) dX6_init_26 u148 (by decide) rfl (by decide) rfl rfl ?_
  refine mW_ws (st2 := [.ref (b + 3), .ref b]) (w2 := wR b qX6_init_5 w) rfl R_N ?_
  refine mW_putF (ty := .array .int) (w2 := sfr (wR b qX6_init_5 w) b 2 (some (b + 3))) dX6_init_28 p_X6_18 rfl (R_k (o := 0) (x := (6, 0)) (by decide +kernel) (by decide +kernel)) (Nat.le_of_ble_eq_true rfl) (by first | rfl | decide | (repeat' split) <;> rfl) rfl (hN_sfr _ _ _ _) (hk_sfr _ _ _ _) (mE_sfr (R_k (o := 0) (x := (6, 0)) (by decide +kernel) (by decide +kernel)) (by decide) (ob_6_2 _ _ _)) ?_
  refine mW_ws (st2 := []) (w2 := wR b qX6_init_6 w) rfl (R_R (o := 0) (by decide +kernel)) ?_
  refine mW_aload_n (j := 0) dX6_init_31 rfl rfl ?_
  refine mW_sipush (v := 200) dX6_init_32 (by decide) ?_
  refine mW_newI (N := 200) (kc2 := 2) (ks2 := 400) dX6_init_35 u148 (by decide) rfl (by decide) rfl rfl ?_
  refine mW_ws (st2 := [.ref (b + 4), .ref b]) (w2 := wR b qX6_init_7 w) rfl R_N ?_
  refine mW_putF (ty := .array .int) (w2 := sfr (wR b qX6_init_7 w) b 3 (some (b + 4))) dX6_init_37 p_X6_21 rfl (R_k (o := 0) (x := (6, 0)) (by decide +kernel) (by decide +kernel)) (Nat.le_of_ble_eq_true rfl) (by first | rfl | decide | (repeat' split) <;> rfl) rfl (hN_sfr _ _ _ _) (hk_sfr _ _ _ _) (mE_sfr (R_k (o := 0) (x := (6, 0)) (by decide +kernel) (by decide +kernel)) (by decide) (ob_6_3 _ _ _)) ?_
  refine mW_ws (st2 := []) (w2 := wR b qX6_init_8 w) rfl (R_R (o := 0) (by decide +kernel)) ?_
  refine mW_aload_n (j := 0) dX6_init_40 rfl rfl ?_
  refine mW_sipush (v := 200) dX6_init_41 (by decide) ?_
  refine mW_newI (N := 200) (kc2 := 1) (ks2 := 200) dX6_init_44 u148 (by decide) rfl (by decide) rfl rfl ?_
  refine mW_ws (st2 := [.ref (b + 5), .ref b]) (w2 := wR b qX6_init_9 w) rfl R_N ?_
  refine mW_putF (ty := .array .int) (w2 := sfr (wR b qX6_init_9 w) b 4 (some (b + 5))) dX6_init_46 p_X6_24 rfl (R_k (o := 0) (x := (6, 0)) (by decide +kernel) (by decide +kernel)) (Nat.le_of_ble_eq_true rfl) (by first | rfl | decide | (repeat' split) <;> rfl) rfl (hN_sfr _ _ _ _) (hk_sfr _ _ _ _) (mE_sfr (R_k (o := 0) (x := (6, 0)) (by decide +kernel) (by decide +kernel)) (by decide) (ob_6_4 _ _ _)) ?_
  refine mW_ws (st2 := []) (w2 := wR b qX6_init_10 w) rfl (R_R (o := 0) (by decide +kernel)) ?_
  refine mW_aload_n (j := 0) dX6_init_49 rfl rfl ?_
  refine mW_sipush (v := 200) dX6_init_50 (by decide) ?_
  refine mW_newI (N := 200) (kc2 := 0) (ks2 := 0) dX6_init_53 u148 (by decide) rfl (by decide) rfl rfl ?_
  refine mW_ws (st2 := [.ref (b + 6), .ref b]) (w2 := wR b qX6_init_11 w) rfl R_N ?_
  refine mW_putF (ty := .array .int) (w2 := sfr (wR b qX6_init_11 w) b 5 (some (b + 6))) dX6_init_55 p_X6_27 rfl (R_k (o := 0) (x := (6, 0)) (by decide +kernel) (by decide +kernel)) (Nat.le_of_ble_eq_true rfl) (by first | rfl | decide | (repeat' split) <;> rfl) rfl (hN_sfr _ _ _ _) (hk_sfr _ _ _ _) (mE_sfr (R_k (o := 0) (x := (6, 0)) (by decide +kernel) (by decide +kernel)) (by decide) (ob_6_5 _ _ _)) ?_
  refine mW_ws (st2 := []) (w2 := wR b qX6_init_12 w) rfl (R_R (o := 0) (by decide +kernel)) ?_
  refine mW_aload_n (j := 0) dX6_init_58 rfl rfl ?_
  refine mW_iconst (v := 0) dX6_init_59 (by decide) ?_
  refine mW_put (ty := .int) (w2 := sfi (wR b qX6_init_12 w) b 6 0) dX6_init_60 p_X6_30 (R_k (o := 0) (x := (6, 0)) (by decide +kernel) (by decide +kernel)) (Nat.le_of_ble_eq_true rfl) (by first | rfl | decide | (repeat' split) <;> rfl) rfl (hN_sfi _ _ _ _) (hk_sfi _ _ _ _) (mE_sfi (R_k (o := 0) (x := (6, 0)) (by decide +kernel) (by decide +kernel)) (by decide) (ob_6_6 _ _ _)) ?_
  refine mW_ws (st2 := []) (w2 := wR b qX6_init_13 w) rfl (R_I (o := 0) (by decide +kernel)) ?_
  exact mW_vret dX6_init_63 rfl ⟨rfl, rfl⟩
theorem mk0_X3 : ∀ (w : mH) (a : Nat), hfi w a = (fun _ => 0) → hfl w a = (fun _ => 0) → hfr w a = (fun _ => none) → ∀ j, j < 5 → defaultValue (tyX3 j) = vp_V (mOb w a 3) j := by
  intro w a h1 h2 h3 j hj
  simp only [mOb, h1, h2, h3]
  revert j
  decide
theorem u118 : (Cond.methodLink "LineFollowerBench$Setup" 1 ⟨"java/lang/Object", "<init>", "()V"⟩ : Cond) ∈ mTs := mTs_in 118 (by decide +kernel) (by decide +kernel)
theorem v119 : (Cond.fieldLinkNest "LineFollowerBench$Setup" 7 "LineFollowerBench" "SETTING_AT_FIRST" "[I" "LineFollowerBench" : Cond) ∈ lw_tbl := List.mem_of_getElem? (i := 119) (by decide +kernel)
theorem u121 : (Cond.methodLink "LineFollowerBench$Setup" 13 ⟨"[I", "clone", "()Ljava/lang/Object;"⟩ : Cond) ∈ mTs := mTs_in 121 (by decide +kernel) (by decide +kernel)
theorem u122 : (Cond.sameMethod "[I" "java/lang/Object" "clone" "()Ljava/lang/Object;" : Cond) ∈ mTs := mTs_in 122 (by decide +kernel) (by decide +kernel)
theorem u123 : (Cond.native ⟨"java/lang/Object", "clone", "()Ljava/lang/Object;"⟩ : Cond) ∈ mTs := mTs_in 123 (by decide +kernel) (by decide +kernel)
theorem u124 : (Cond.instanceMethod ⟨"java/lang/Object", "clone", "()Ljava/lang/Object;"⟩ : Cond) ∈ mTs := mTs_in 124 (by decide +kernel) (by decide +kernel)
theorem u125 : (Cond.selects "[I" ⟨"[I", "clone", "()Ljava/lang/Object;"⟩ ⟨"java/lang/Object", "clone", "()Ljava/lang/Object;"⟩ : Cond) ∈ mTs := mTs_in 125 (by decide +kernel) (by decide +kernel)
theorem v126 : (Cond.castable "[I" "java/lang/Cloneable" : Cond) ∈ lw_tbl := List.mem_of_getElem? (i := 126) (by decide +kernel)
theorem u127 : (Cond.classLink "LineFollowerBench$Setup" 14 "[I" : Cond) ∈ mTs := mTs_in 127 (by decide +kernel) (by decide +kernel)
theorem p_X3_18 : mPut "LineFollowerBench$Setup" 18 3 0 (.array .int) true := ⟨RX3, TX3, 5, "LineFollowerBench$Setup", tyX3, rfl, by decide, in_X3, u201, Or.inl rfl, by decide, tyX3_ok, nmX3, by decide +kernel, rfl, fun _ => rfl⟩
theorem ob_3_0 (w : mH) (a : Nat) (v : Option Nat) : mOb (sfr w a 0 v) a 3 = (mOb w a 3).set 0 (va_rf v) := by simp [mOb, hfi_sfr, hfl_sfr, hfr_sfr, up2]
theorem p_X3_23 : mPut "LineFollowerBench$Setup" 23 3 1 (.array .int) true := ⟨RX3, TX3, 5, "LineFollowerBench$Setup", tyX3, rfl, by decide, in_X3, u205, Or.inl rfl, by decide, tyX3_ok, nmX3, by decide +kernel, rfl, fun _ => rfl⟩
theorem ob_3_1 (w : mH) (a : Nat) (v : Option Nat) : mOb (sfr w a 1 v) a 3 = (mOb w a 3).set 1 (va_rf v) := by simp [mOb, hfi_sfr, hfl_sfr, hfr_sfr, up2]
theorem u128 : (Cond.classLink "LineFollowerBench$Setup" 26 "LineFollowerBench$Grid" : Cond) ∈ mTs := mTs_in 128 (by decide +kernel) (by decide +kernel)
theorem u129 : (Cond.instantiable "LineFollowerBench$Grid" 3 : Cond) ∈ mTs := mTs_in 129 (by decide +kernel) (by decide +kernel)
theorem mk_X3_26 : mMk "LineFollowerBench$Setup" 26 1 3 := ⟨RX1, TX1, tyX1, rfl, in_X1, tyX1_ok, u128, u129, u72, by decide, mk0_X1⟩
theorem u132 : (Cond.code ⟨"LineFollowerBench$Grid", "<init>", "()V"⟩ prog_3_method_1_code 1 (none : Option ClassFile.FieldType) : Cond) ∈ mTs := mTs_in 132 (by decide +kernel) (by decide +kernel)
theorem co_X1_init : mCode mX1_init := ⟨u132, u72, by decide⟩
theorem v130 : (Cond.methodLinkNest "LineFollowerBench$Setup" 28 ⟨"LineFollowerBench$Grid", "<init>", "()V"⟩ "LineFollowerBench" : Cond) ∈ lw_tbl := List.mem_of_getElem? (i := 130) (by decide +kernel)
theorem u131 : (Cond.instanceMethod ⟨"LineFollowerBench$Grid", "<init>", "()V"⟩ : Cond) ∈ mTs := mTs_in 131 (by decide +kernel) (by decide +kernel)
theorem l_X3_28 : mLinkIN "LineFollowerBench$Setup" 28 0 mX1_init "LineFollowerBench" := ⟨⟨by decide, by decide, by decide +kernel⟩, co_X1_init, v130, u131, rfl, rfl⟩
theorem p_X3_29 : mPut "LineFollowerBench$Setup" 29 3 2 (.object "LineFollowerBench$Grid") true := ⟨RX3, TX3, 5, "LineFollowerBench$Setup", tyX3, rfl, by decide, in_X3, u208, Or.inl rfl, by decide, tyX3_ok, nmX3, by decide +kernel, rfl, fun _ => rfl⟩
theorem ob_3_2 (w : mH) (a : Nat) (v : Option Nat) : mOb (sfr w a 2 v) a 3 = (mOb w a 3).set 2 (va_rf v) := by simp [mOb, hfi_sfr, hfl_sfr, hfr_sfr, up2]
theorem u149 : (Cond.classLink "LineFollowerBench$Setup" 33 "LineFollowerBench$Table" : Cond) ∈ mTs := mTs_in 149 (by decide +kernel) (by decide +kernel)
theorem u150 : (Cond.instantiable "LineFollowerBench$Table" 3 : Cond) ∈ mTs := mTs_in 150 (by decide +kernel) (by decide +kernel)
theorem mk_X3_33 : mMk "LineFollowerBench$Setup" 33 5 3 := ⟨RX5, TX5, tyX5, rfl, in_X5, tyX5_ok, u149, u150, u73, by decide, mk0_X5⟩
theorem u153 : (Cond.code ⟨"LineFollowerBench$Table", "<init>", "()V"⟩ prog_7_method_1_code 1 (none : Option ClassFile.FieldType) : Cond) ∈ mTs := mTs_in 153 (by decide +kernel) (by decide +kernel)
theorem co_X5_init : mCode mX5_init := ⟨u153, u73, by decide⟩
theorem v151 : (Cond.methodLinkNest "LineFollowerBench$Setup" 35 ⟨"LineFollowerBench$Table", "<init>", "()V"⟩ "LineFollowerBench" : Cond) ∈ lw_tbl := List.mem_of_getElem? (i := 151) (by decide +kernel)
theorem u152 : (Cond.instanceMethod ⟨"LineFollowerBench$Table", "<init>", "()V"⟩ : Cond) ∈ mTs := mTs_in 152 (by decide +kernel) (by decide +kernel)
theorem l_X3_35 : mLinkIN "LineFollowerBench$Setup" 35 0 mX5_init "LineFollowerBench" := ⟨⟨by decide, by decide, by decide +kernel⟩, co_X5_init, v151, u152, rfl, rfl⟩
theorem p_X3_36 : mPut "LineFollowerBench$Setup" 36 3 3 (.object "LineFollowerBench$Table") true := ⟨RX3, TX3, 5, "LineFollowerBench$Setup", tyX3, rfl, by decide, in_X3, u211, Or.inl rfl, by decide, tyX3_ok, nmX3, by decide +kernel, rfl, fun _ => rfl⟩
theorem ob_3_3 (w : mH) (a : Nat) (v : Option Nat) : mOb (sfr w a 3 v) a 3 = (mOb w a 3).set 3 (va_rf v) := by simp [mOb, hfi_sfr, hfl_sfr, hfr_sfr, up2]
theorem u168 : (Cond.classLink "LineFollowerBench$Setup" 40 "LineFollowerBench$Track" : Cond) ∈ mTs := mTs_in 168 (by decide +kernel) (by decide +kernel)
theorem u169 : (Cond.instantiable "LineFollowerBench$Track" 8 : Cond) ∈ mTs := mTs_in 169 (by decide +kernel) (by decide +kernel)
theorem mk_X3_40 : mMk "LineFollowerBench$Setup" 40 7 8 := ⟨RX7, TX7, tyX7, rfl, in_X7, tyX7_ok, u168, u169, u74, by decide, mk0_X7⟩
theorem u172 : (Cond.code ⟨"LineFollowerBench$Track", "<init>", "()V"⟩ prog_9_method_1_code 1 (none : Option ClassFile.FieldType) : Cond) ∈ mTs := mTs_in 172 (by decide +kernel) (by decide +kernel)
theorem co_X7_init : mCode mX7_init := ⟨u172, u74, by decide⟩
theorem v170 : (Cond.methodLinkNest "LineFollowerBench$Setup" 42 ⟨"LineFollowerBench$Track", "<init>", "()V"⟩ "LineFollowerBench" : Cond) ∈ lw_tbl := List.mem_of_getElem? (i := 170) (by decide +kernel)
theorem u171 : (Cond.instanceMethod ⟨"LineFollowerBench$Track", "<init>", "()V"⟩ : Cond) ∈ mTs := mTs_in 171 (by decide +kernel) (by decide +kernel)
theorem l_X3_42 : mLinkIN "LineFollowerBench$Setup" 42 0 mX7_init "LineFollowerBench" := ⟨⟨by decide, by decide, by decide +kernel⟩, co_X7_init, v170, u171, rfl, rfl⟩
theorem p_X3_43 : mPut "LineFollowerBench$Setup" 43 3 4 (.object "LineFollowerBench$Track") true := ⟨RX3, TX3, 5, "LineFollowerBench$Setup", tyX3, rfl, by decide, in_X3, u214, Or.inl rfl, by decide, tyX3_ok, nmX3, by decide +kernel, rfl, fun _ => rfl⟩
theorem ob_3_4 (w : mH) (a : Nat) (v : Option Nat) : mOb (sfr w a 4 v) a 3 = (mOb w a 3).set 4 (va_rf v) := by simp [mOb, hfi_sfr, hfl_sfr, hfr_sfr, up2]
abbrev mX3_init : mM := (yX3_init, cX3_init, 1, none, [])
def qX3_init_1 : mQ := qVx (qVn (q0 3) (16, 15)) 1 (fun j => (mSv 0).getD j 0)
def qX3_init_2 : mQ := qVr qX3_init_1 0 0 1
def qX3_init_3 : mQ := qVn qX3_init_2 (16, 5)
def qX3_init_4 : mQ := qVa qX3_init_3 2 0 1
def qX3_init_5 : mQ := qVa qX3_init_4 2 1 1
def qX3_init_6 : mQ := qVa qX3_init_5 2 2 0
def qX3_init_7 : mQ := qVa qX3_init_6 2 3 0
def qX3_init_8 : mQ := qVa qX3_init_7 2 4 0
def qX3_init_9 : mQ := qVr qX3_init_8 0 1 2
def qX3_init_10 : mQ := qVp qX3_init_9 qX1_init_15
def qX3_init_11 : mQ := qVr qX3_init_10 0 2 3
def qX3_init_12 : mQ := qVp qX3_init_11 qX5_init_5
def qX3_init_13 : mQ := qVr qX3_init_12 0 3 7
def qX3_init_14 : mQ := qVp qX3_init_13 qX7_init_14
def qX3_init_15 : mQ := qVr qX3_init_14 0 4 10
set_option maxHeartbeats 4000000 in
set_option maxRecDepth 100000 in
theorem iX3_init {G : mG} {b : Nat} {w : mH} : mC G mX3_init 2 16 89 [.ref b] (wR b (q0 3) w) (mEq (.inl none) (wR b qX3_init_15 w)) := by
  refine mC_of (by decide +kernel) rfl (Nat.le_of_ble_eq_true rfl) rfl ?_
  refine mW_aload_n (j := 0) dX3_init_0 rfl rfl ?_
  refine mW_objInit dX3_init_1 u118 u111 u112 (Nat.le_of_ble_eq_true rfl) (by decide) ?_
  refine mW_aload_n (j := 0) dX3_init_4 rfl rfl ?_
  refine mW_getsN (i := 0) dX3_init_5 (by decide) v119 ?_
  refine mW_clone0 (kc2 := 15) (ks2 := 74) dX3_init_8 u121 u122 u123 u124 u125 v126 (Nat.le_of_ble_eq_true rfl) (by decide) rfl rfl ?_
  refine mW_ws (st2 := [.ref (b + 1), .ref b]) (w2 := wR b qX3_init_1 w) rfl (R_C rfl) ?_
  refine mW_castI dX3_init_11 u127 (R_k (o := 1) (x := (16, 15)) (by decide +kernel) (by decide +kernel)) ?_
  refine mW_putF (ty := .array .int) (w2 := sfr (wR b qX3_init_1 w) b 0 (some (b + 1))) dX3_init_14 p_X3_18 rfl (R_k (o := 0) (x := (3, 0)) (by decide +kernel) (by decide +kernel)) (Nat.le_of_ble_eq_true rfl) (by first | rfl | decide | (repeat' split) <;> rfl) rfl (hN_sfr _ _ _ _) (hk_sfr _ _ _ _) (mE_sfr (R_k (o := 0) (x := (3, 0)) (by decide +kernel) (by decide +kernel)) (by decide) (ob_3_0 _ _ _)) ?_
  refine mW_ws (st2 := []) (w2 := wR b qX3_init_2 w) rfl (R_R (o := 0) (by decide +kernel)) ?_
  refine mW_aload_n (j := 0) dX3_init_17 rfl rfl ?_
  refine mW_iconst (v := 5) dX3_init_18 (by decide) ?_
  refine mW_newI (N := 5) (kc2 := 14) (ks2 := 69) dX3_init_19 u148 (by decide) rfl (by decide) rfl rfl ?_
  refine mW_ws (st2 := [.ref (b + 2), .ref b]) (w2 := wR b qX3_init_3 w) rfl R_N ?_
  refine mW_dup dX3_init_21 rfl ?_
  refine mW_iconst (v := 0) dX3_init_22 (by decide) ?_
  refine mW_iconst (v := 1) dX3_init_23 (by decide) ?_
  refine mW_iastJ (j := 0) dX3_init_24 (R_k (o := 2) (x := (16, 5)) (by decide +kernel) (by decide +kernel)) (by unfold vp_in; decide) rfl ?_
  refine mW_ws (st2 := [.ref (b + 2), .ref b]) (w2 := wR b qX3_init_4 w) rfl (R_A (by decide +kernel)) ?_
  refine mW_dup dX3_init_25 rfl ?_
  refine mW_iconst (v := 1) dX3_init_26 (by decide) ?_
  refine mW_iconst (v := 1) dX3_init_27 (by decide) ?_
  refine mW_iastJ (j := 1) dX3_init_28 (R_k (o := 2) (x := (16, 5)) (by decide +kernel) (by decide +kernel)) (by unfold vp_in; decide) rfl ?_
  refine mW_ws (st2 := [.ref (b + 2), .ref b]) (w2 := wR b qX3_init_5 w) rfl (R_A (by decide +kernel)) ?_
  refine mW_dup dX3_init_29 rfl ?_
  refine mW_iconst (v := 2) dX3_init_30 (by decide) ?_
  refine mW_iconst (v := 0) dX3_init_31 (by decide) ?_
  refine mW_iastJ (j := 2) dX3_init_32 (R_k (o := 2) (x := (16, 5)) (by decide +kernel) (by decide +kernel)) (by unfold vp_in; decide) rfl ?_
  refine mW_ws (st2 := [.ref (b + 2), .ref b]) (w2 := wR b qX3_init_6 w) rfl (R_A (by decide +kernel)) ?_
  refine mW_dup dX3_init_33 rfl ?_
  refine mW_iconst (v := 3) dX3_init_34 (by decide) ?_
  refine mW_iconst (v := 0) dX3_init_35 (by decide) ?_
  refine mW_iastJ (j := 3) dX3_init_36 (R_k (o := 2) (x := (16, 5)) (by decide +kernel) (by decide +kernel)) (by unfold vp_in; decide) rfl ?_
  refine mW_ws (st2 := [.ref (b + 2), .ref b]) (w2 := wR b qX3_init_7 w) rfl (R_A (by decide +kernel)) ?_
  refine mW_dup dX3_init_37 rfl ?_
  refine mW_iconst (v := 4) dX3_init_38 (by decide) ?_
  refine mW_iconst (v := 0) dX3_init_39 (by decide) ?_
  refine mW_iastJ (j := 4) dX3_init_40 (R_k (o := 2) (x := (16, 5)) (by decide +kernel) (by decide +kernel)) (by unfold vp_in; decide) rfl ?_
  refine mW_ws (st2 := [.ref (b + 2), .ref b]) (w2 := wR b qX3_init_8 w) rfl (R_A (by decide +kernel)) ?_
  refine mW_putF (ty := .array .int) (w2 := sfr (wR b qX3_init_8 w) b 1 (some (b + 2))) dX3_init_41 p_X3_23 rfl (R_k (o := 0) (x := (3, 0)) (by decide +kernel) (by decide +kernel)) (Nat.le_of_ble_eq_true rfl) (by first | rfl | decide | (repeat' split) <;> rfl) rfl (hN_sfr _ _ _ _) (hk_sfr _ _ _ _) (mE_sfr (R_k (o := 0) (x := (3, 0)) (by decide +kernel) (by decide +kernel)) (by decide) (ob_3_1 _ _ _)) ?_
  refine mW_ws (st2 := []) (w2 := wR b qX3_init_9 w) rfl (R_R (o := 0) (by decide +kernel)) ?_
  refine mW_aload_n (j := 0) dX3_init_44 rfl rfl ?_
  refine mW_new (ci := 1) (N := 3) (kc2 := 13) (ks2 := 66) dX3_init_45 mk_X3_26 rfl rfl ?_
  refine mW_ws (st2 := [.ref (b + 3), .ref b]) (w2 := wR (b + 3) (q0 1) (wR b qX3_init_9 w)) rfl R_0 ?_
  refine mW_dup dX3_init_48 rfl ?_
  refine mW_callINe (As := []) (rest := [.ref (b + 3), .ref b]) (b := b + 3) (kc2 := 10) (ks2 := 57) (v := none) (w2 := wR (b + 3) qX1_init_15 (wR b qX3_init_9 w)) dX3_init_49 l_X3_28 rfl iX1_init (Nat.le_of_ble_eq_true rfl) (by decide) rfl rfl ?_
  refine mW_ws (st2 := [.ref (b + 3), .ref b]) (w2 := wR b qX3_init_10 w) rfl (R_P (b := b) (Q := qX3_init_9) (Q' := qX1_init_15) (w := w)) ?_
  refine mW_putF (ty := .object "LineFollowerBench$Grid") (w2 := sfr (wR b qX3_init_10 w) b 2 (some (b + 3))) dX3_init_52 p_X3_29 rfl (R_k (o := 0) (x := (3, 0)) (by decide +kernel) (by decide +kernel)) (Nat.le_of_ble_eq_true rfl) (by first | rfl | decide | (repeat' split) <;> rfl) rfl (hN_sfr _ _ _ _) (hk_sfr _ _ _ _) (mE_sfr (R_k (o := 0) (x := (3, 0)) (by decide +kernel) (by decide +kernel)) (by decide) (ob_3_2 _ _ _)) ?_
  refine mW_ws (st2 := []) (w2 := wR b qX3_init_11 w) rfl (R_R (o := 0) (by decide +kernel)) ?_
  refine mW_aload_n (j := 0) dX3_init_55 rfl rfl ?_
  refine mW_new (ci := 5) (N := 3) (kc2 := 9) (ks2 := 54) dX3_init_56 mk_X3_33 rfl rfl ?_
  refine mW_ws (st2 := [.ref (b + 7), .ref b]) (w2 := wR (b + 7) (q0 5) (wR b qX3_init_11 w)) rfl R_0 ?_
  refine mW_dup dX3_init_59 rfl ?_
  refine mW_callINe (As := []) (rest := [.ref (b + 7), .ref b]) (b := b + 7) (kc2 := 7) (ks2 := 44) (v := none) (w2 := wR (b + 7) qX5_init_5 (wR b qX3_init_11 w)) dX3_init_60 l_X3_35 rfl iX5_init (Nat.le_of_ble_eq_true rfl) (by decide) rfl rfl ?_
  refine mW_ws (st2 := [.ref (b + 7), .ref b]) (w2 := wR b qX3_init_12 w) rfl (R_P (b := b) (Q := qX3_init_11) (Q' := qX5_init_5) (w := w)) ?_
  refine mW_putF (ty := .object "LineFollowerBench$Table") (w2 := sfr (wR b qX3_init_12 w) b 3 (some (b + 7))) dX3_init_63 p_X3_36 rfl (R_k (o := 0) (x := (3, 0)) (by decide +kernel) (by decide +kernel)) (Nat.le_of_ble_eq_true rfl) (by first | rfl | decide | (repeat' split) <;> rfl) rfl (hN_sfr _ _ _ _) (hk_sfr _ _ _ _) (mE_sfr (R_k (o := 0) (x := (3, 0)) (by decide +kernel) (by decide +kernel)) (by decide) (ob_3_3 _ _ _)) ?_
  refine mW_ws (st2 := []) (w2 := wR b qX3_init_13 w) rfl (R_R (o := 0) (by decide +kernel)) ?_
  refine mW_aload_n (j := 0) dX3_init_66 rfl rfl ?_
  refine mW_new (ci := 7) (N := 8) (kc2 := 6) (ks2 := 36) dX3_init_67 mk_X3_40 rfl rfl ?_
  refine mW_ws (st2 := [.ref (b + 10), .ref b]) (w2 := wR (b + 10) (q0 7) (wR b qX3_init_13 w)) rfl R_0 ?_
  refine mW_dup dX3_init_70 rfl ?_
  refine mW_callINe (As := []) (rest := [.ref (b + 10), .ref b]) (b := b + 10) (kc2 := 0) (ks2 := 0) (v := none) (w2 := wR (b + 10) qX7_init_14 (wR b qX3_init_13 w)) dX3_init_71 l_X3_42 rfl iX7_init (Nat.le_of_ble_eq_true rfl) (by decide) rfl rfl ?_
  refine mW_ws (st2 := [.ref (b + 10), .ref b]) (w2 := wR b qX3_init_14 w) rfl (R_P (b := b) (Q := qX3_init_13) (Q' := qX7_init_14) (w := w)) ?_
  refine mW_putF (ty := .object "LineFollowerBench$Track") (w2 := sfr (wR b qX3_init_14 w) b 4 (some (b + 10))) dX3_init_74 p_X3_43 rfl (R_k (o := 0) (x := (3, 0)) (by decide +kernel) (by decide +kernel)) (Nat.le_of_ble_eq_true rfl) (by first | rfl | decide | (repeat' split) <;> rfl) rfl (hN_sfr _ _ _ _) (hk_sfr _ _ _ _) (mE_sfr (R_k (o := 0) (x := (3, 0)) (by decide +kernel) (by decide +kernel)) (by decide) (ob_3_4 _ _ _)) ?_
  refine mW_ws (st2 := []) (w2 := wR b qX3_init_15 w) rfl (R_R (o := 0) (by decide +kernel)) ?_
  exact mW_vret dX3_init_77 rfl ⟨rfl, rfl⟩
theorem mk0_X4 : ∀ (w : mH) (a : Nat), hfi w a = (fun _ => 0) → hfl w a = (fun _ => 0) → hfr w a = (fun _ => none) → ∀ j, j < 11 → defaultValue (tyX4 j) = vp_V (mOb w a 4) j := by
  intro w a h1 h2 h3 j hj
  simp only [mOb, h1, h2, h3]
  revert j
  decide
theorem u317 : (Cond.methodLink "LineFollowerBench$Simulation" 3 ⟨"java/lang/Object", "<init>", "()V"⟩ : Cond) ∈ mTs := mTs_in 317 (by decide +kernel) (by decide +kernel)
theorem v318 : (Cond.fieldLinkNest "LineFollowerBench$Simulation" 9 "LineFollowerBench" "SETTING_AT_FIRST" "[I" "LineFollowerBench" : Cond) ∈ lw_tbl := List.mem_of_getElem? (i := 318) (by decide +kernel)
theorem u319 : (Cond.methodLink "LineFollowerBench$Simulation" 13 ⟨"[I", "clone", "()Ljava/lang/Object;"⟩ : Cond) ∈ mTs := mTs_in 319 (by decide +kernel) (by decide +kernel)
theorem u320 : (Cond.classLink "LineFollowerBench$Simulation" 14 "[I" : Cond) ∈ mTs := mTs_in 320 (by decide +kernel) (by decide +kernel)
theorem p_X4_18 : mPut "LineFollowerBench$Simulation" 18 4 0 (.array .int) true := ⟨RX4, TX4, 11, "LineFollowerBench$Simulation", tyX4, rfl, by decide, in_X4, u323, Or.inl rfl, by decide, tyX4_ok, nmX4, by decide +kernel, rfl, fun _ => rfl⟩
theorem ob_4_0 (w : mH) (a : Nat) (v : Option Nat) : mOb (sfr w a 0 v) a 4 = (mOb w a 4).set 0 (va_rf v) := by simp [mOb, hfi_sfr, hfl_sfr, hfr_sfr, up2]
theorem u321 : (Cond.classLink "LineFollowerBench$Simulation" 23 "LineFollowerBench$Table" : Cond) ∈ mTs := mTs_in 321 (by decide +kernel) (by decide +kernel)
theorem mk_X4_23 : mMk "LineFollowerBench$Simulation" 23 5 3 := ⟨RX5, TX5, tyX5, rfl, in_X5, tyX5_ok, u321, u150, u73, by decide, mk0_X5⟩
theorem v322 : (Cond.methodLinkNest "LineFollowerBench$Simulation" 25 ⟨"LineFollowerBench$Table", "<init>", "()V"⟩ "LineFollowerBench" : Cond) ∈ lw_tbl := List.mem_of_getElem? (i := 322) (by decide +kernel)
theorem l_X4_25 : mLinkIN "LineFollowerBench$Simulation" 25 0 mX5_init "LineFollowerBench" := ⟨⟨by decide, by decide, by decide +kernel⟩, co_X5_init, v322, u152, rfl, rfl⟩
theorem p_X4_26 : mPut "LineFollowerBench$Simulation" 26 4 1 (.object "LineFollowerBench$Table") true := ⟨RX4, TX4, 11, "LineFollowerBench$Simulation", tyX4, rfl, by decide, in_X4, u325, Or.inl rfl, by decide, tyX4_ok, nmX4, by decide +kernel, rfl, fun _ => rfl⟩
theorem ob_4_1 (w : mH) (a : Nat) (v : Option Nat) : mOb (sfr w a 1 v) a 4 = (mOb w a 4).set 1 (va_rf v) := by simp [mOb, hfi_sfr, hfl_sfr, hfr_sfr, up2]
theorem p_X4_30 : mPut "LineFollowerBench$Simulation" 30 4 2 (.array .int) true := ⟨RX4, TX4, 11, "LineFollowerBench$Simulation", tyX4, rfl, by decide, in_X4, u326, Or.inl rfl, by decide, tyX4_ok, nmX4, by decide +kernel, rfl, fun _ => rfl⟩
theorem ob_4_2 (w : mH) (a : Nat) (v : Option Nat) : mOb (sfr w a 2 v) a 4 = (mOb w a 4).set 2 (va_rf v) := by simp [mOb, hfi_sfr, hfl_sfr, hfr_sfr, up2]
theorem p_X4_33 : mPut "LineFollowerBench$Simulation" 33 4 3 (.array .int) true := ⟨RX4, TX4, 11, "LineFollowerBench$Simulation", tyX4, rfl, by decide, in_X4, u327, Or.inl rfl, by decide, tyX4_ok, nmX4, by decide +kernel, rfl, fun _ => rfl⟩
theorem ob_4_3 (w : mH) (a : Nat) (v : Option Nat) : mOb (sfr w a 3 v) a 4 = (mOb w a 4).set 3 (va_rf v) := by simp [mOb, hfi_sfr, hfl_sfr, hfr_sfr, up2]
theorem p_X4_36 : mPut "LineFollowerBench$Simulation" 36 4 4 (.array .int) true := ⟨RX4, TX4, 11, "LineFollowerBench$Simulation", tyX4, rfl, by decide, in_X4, u328, Or.inl rfl, by decide, tyX4_ok, nmX4, by decide +kernel, rfl, fun _ => rfl⟩
theorem ob_4_4 (w : mH) (a : Nat) (v : Option Nat) : mOb (sfr w a 4 v) a 4 = (mOb w a 4).set 4 (va_rf v) := by simp [mOb, hfi_sfr, hfl_sfr, hfr_sfr, up2]
abbrev mX4_init : mM := (yX4_init, cX4_init, 1, none, [])
def qX4_init_1 : mQ := qVx (qVn (q0 4) (16, 15)) 1 (fun j => (mSv 0).getD j 0)
def qX4_init_2 : mQ := qVr qX4_init_1 0 0 1
def qX4_init_3 : mQ := qVp qX4_init_2 qX5_init_5
def qX4_init_4 : mQ := qVr qX4_init_3 0 1 2
def qX4_init_5 : mQ := qVn qX4_init_4 (16, 200)
def qX4_init_6 : mQ := qVr qX4_init_5 0 2 5
def qX4_init_7 : mQ := qVn qX4_init_6 (16, 200)
def qX4_init_8 : mQ := qVr qX4_init_7 0 3 6
def qX4_init_9 : mQ := qVn qX4_init_8 (16, 200)
def qX4_init_10 : mQ := qVr qX4_init_9 0 4 7
def qX4_init_11 : mQ := qVi qX4_init_10 0 5 0
def qX4_init_12 : mQ := qVi qX4_init_11 0 6 0
def qX4_init_13 : mQ := qVi qX4_init_12 0 7 0
def qX4_init_14 : mQ := qVi qX4_init_13 0 8 0
def qX4_init_15 : mQ := qVi qX4_init_14 0 9 0
def qX4_init_16 : mQ := qVi qX4_init_15 0 10 0
set_option maxHeartbeats 4000000 in
set_option maxRecDepth 100000 in
theorem iX4_init {G : mG} {b : Nat} {w : mH} : mC G mX4_init 2 7 628 [.ref b] (wR b (q0 4) w) (mEq (.inl none) (wR b qX4_init_16 w)) := by
  refine mC_of (by decide +kernel) rfl (Nat.le_of_ble_eq_true rfl) rfl ?_
  refine mW_aload_n (j := 0) dX4_init_0 rfl rfl ?_
  refine mW_objInit dX4_init_1 u317 u111 u112 (Nat.le_of_ble_eq_true rfl) (by decide) ?_
  refine mW_aload_n (j := 0) dX4_init_4 rfl rfl ?_
  refine mW_getsN (i := 0) dX4_init_5 (by decide) v318 ?_
  refine mW_clone0 (kc2 := 6) (ks2 := 613) dX4_init_8 u319 u122 u123 u124 u125 v126 (Nat.le_of_ble_eq_true rfl) (by decide) rfl rfl ?_
  refine mW_ws (st2 := [.ref (b + 1), .ref b]) (w2 := wR b qX4_init_1 w) rfl (R_C rfl) ?_
  refine mW_castI dX4_init_11 u320 (R_k (o := 1) (x := (16, 15)) (by decide +kernel) (by decide +kernel)) ?_
  refine mW_putF (ty := .array .int) (w2 := sfr (wR b qX4_init_1 w) b 0 (some (b + 1))) dX4_init_14 p_X4_18 rfl (R_k (o := 0) (x := (4, 0)) (by decide +kernel) (by decide +kernel)) (Nat.le_of_ble_eq_true rfl) (by first | rfl | decide | (repeat' split) <;> rfl) rfl (hN_sfr _ _ _ _) (hk_sfr _ _ _ _) (mE_sfr (R_k (o := 0) (x := (4, 0)) (by decide +kernel) (by decide +kernel)) (by decide) (ob_4_0 _ _ _)) ?_
  refine mW_ws (st2 := []) (w2 := wR b qX4_init_2 w) rfl (R_R (o := 0) (by decide +kernel)) ?_
  refine mW_aload_n (j := 0) dX4_init_17 rfl rfl ?_
  refine mW_new (ci := 5) (N := 3) (kc2 := 5) (ks2 := 610) dX4_init_18 mk_X4_23 rfl rfl ?_
  refine mW_ws (st2 := [.ref (b + 2), .ref b]) (w2 := wR (b + 2) (q0 5) (wR b qX4_init_2 w)) rfl R_0 ?_
  refine mW_dup dX4_init_21 rfl ?_
  refine mW_callINe (As := []) (rest := [.ref (b + 2), .ref b]) (b := b + 2) (kc2 := 3) (ks2 := 600) (v := none) (w2 := wR (b + 2) qX5_init_5 (wR b qX4_init_2 w)) dX4_init_22 l_X4_25 rfl iX5_init (Nat.le_of_ble_eq_true rfl) (by decide) rfl rfl ?_
  refine mW_ws (st2 := [.ref (b + 2), .ref b]) (w2 := wR b qX4_init_3 w) rfl (R_P (b := b) (Q := qX4_init_2) (Q' := qX5_init_5) (w := w)) ?_
  refine mW_putF (ty := .object "LineFollowerBench$Table") (w2 := sfr (wR b qX4_init_3 w) b 1 (some (b + 2))) dX4_init_25 p_X4_26 rfl (R_k (o := 0) (x := (4, 0)) (by decide +kernel) (by decide +kernel)) (Nat.le_of_ble_eq_true rfl) (by first | rfl | decide | (repeat' split) <;> rfl) rfl (hN_sfr _ _ _ _) (hk_sfr _ _ _ _) (mE_sfr (R_k (o := 0) (x := (4, 0)) (by decide +kernel) (by decide +kernel)) (by decide) (ob_4_1 _ _ _)) ?_
  refine mW_ws (st2 := []) (w2 := wR b qX4_init_4 w) rfl (R_R (o := 0) (by decide +kernel)) ?_
  refine mW_aload_n (j := 0) dX4_init_28 rfl rfl ?_
  refine mW_sipush (v := 200) dX4_init_29 (by decide) ?_
  refine mW_newI (N := 200) (kc2 := 2) (ks2 := 400) dX4_init_32 u148 (by decide) rfl (by decide) rfl rfl ?_
  refine mW_ws (st2 := [.ref (b + 5), .ref b]) (w2 := wR b qX4_init_5 w) rfl R_N ?_
  refine mW_putF (ty := .array .int) (w2 := sfr (wR b qX4_init_5 w) b 2 (some (b + 5))) dX4_init_34 p_X4_30 rfl (R_k (o := 0) (x := (4, 0)) (by decide +kernel) (by decide +kernel)) (Nat.le_of_ble_eq_true rfl) (by first | rfl | decide | (repeat' split) <;> rfl) rfl (hN_sfr _ _ _ _) (hk_sfr _ _ _ _) (mE_sfr (R_k (o := 0) (x := (4, 0)) (by decide +kernel) (by decide +kernel)) (by decide) (ob_4_2 _ _ _)) ?_
  refine mW_ws (st2 := []) (w2 := wR b qX4_init_6 w) rfl (R_R (o := 0) (by decide +kernel)) ?_
  refine mW_aload_n (j := 0) dX4_init_37 rfl rfl ?_
  refine mW_sipush (v := 200) dX4_init_38 (by decide) ?_
  refine mW_newI (N := 200) (kc2 := 1) (ks2 := 200) dX4_init_41 u148 (by decide) rfl (by decide) rfl rfl ?_
  refine mW_ws (st2 := [.ref (b + 6), .ref b]) (w2 := wR b qX4_init_7 w) rfl R_N ?_
  refine mW_putF (ty := .array .int) (w2 := sfr (wR b qX4_init_7 w) b 3 (some (b + 6))) dX4_init_43 p_X4_33 rfl (R_k (o := 0) (x := (4, 0)) (by decide +kernel) (by decide +kernel)) (Nat.le_of_ble_eq_true rfl) (by first | rfl | decide | (repeat' split) <;> rfl) rfl (hN_sfr _ _ _ _) (hk_sfr _ _ _ _) (mE_sfr (R_k (o := 0) (x := (4, 0)) (by decide +kernel) (by decide +kernel)) (by decide) (ob_4_3 _ _ _)) ?_
  refine mW_ws (st2 := []) (w2 := wR b qX4_init_8 w) rfl (R_R (o := 0) (by decide +kernel)) ?_
  refine mW_aload_n (j := 0) dX4_init_46 rfl rfl ?_
  refine mW_sipush (v := 200) dX4_init_47 (by decide) ?_
  refine mW_newI (N := 200) (kc2 := 0) (ks2 := 0) dX4_init_50 u148 (by decide) rfl (by decide) rfl rfl ?_
  refine mW_ws (st2 := [.ref (b + 7), .ref b]) (w2 := wR b qX4_init_9 w) rfl R_N ?_
  refine mW_putF (ty := .array .int) (w2 := sfr (wR b qX4_init_9 w) b 4 (some (b + 7))) dX4_init_52 p_X4_36 rfl (R_k (o := 0) (x := (4, 0)) (by decide +kernel) (by decide +kernel)) (Nat.le_of_ble_eq_true rfl) (by first | rfl | decide | (repeat' split) <;> rfl) rfl (hN_sfr _ _ _ _) (hk_sfr _ _ _ _) (mE_sfr (R_k (o := 0) (x := (4, 0)) (by decide +kernel) (by decide +kernel)) (by decide) (ob_4_4 _ _ _)) ?_
  refine mW_ws (st2 := []) (w2 := wR b qX4_init_10 w) rfl (R_R (o := 0) (by decide +kernel)) ?_
  refine mW_aload_n (j := 0) dX4_init_55 rfl rfl ?_
  refine mW_iconst (v := 0) dX4_init_56 (by decide) ?_
  refine mW_put (ty := .int) (w2 := sfi (wR b qX4_init_10 w) b 5 0) dX4_init_57 p_X4_39 (R_k (o := 0) (x := (4, 0)) (by decide +kernel) (by decide +kernel)) (Nat.le_of_ble_eq_true rfl) (by first | rfl | decide | (repeat' split) <;> rfl) rfl (hN_sfi _ _ _ _) (hk_sfi _ _ _ _) (mE_sfi (R_k (o := 0) (x := (4, 0)) (by decide +kernel) (by decide +kernel)) (by decide) (ob_4_5 _ _ _)) ?_
  refine mW_ws (st2 := []) (w2 := wR b qX4_init_11 w) rfl (R_I (o := 0) (by decide +kernel)) ?_
  refine mW_aload_n (j := 0) dX4_init_60 rfl rfl ?_
  refine mW_iconst (v := 0) dX4_init_61 (by decide) ?_
  refine mW_put (ty := .int) (w2 := sfi (wR b qX4_init_11 w) b 6 0) dX4_init_62 p_X4_43 (R_k (o := 0) (x := (4, 0)) (by decide +kernel) (by decide +kernel)) (Nat.le_of_ble_eq_true rfl) (by first | rfl | decide | (repeat' split) <;> rfl) rfl (hN_sfi _ _ _ _) (hk_sfi _ _ _ _) (mE_sfi (R_k (o := 0) (x := (4, 0)) (by decide +kernel) (by decide +kernel)) (by decide) (ob_4_6 _ _ _)) ?_
  refine mW_ws (st2 := []) (w2 := wR b qX4_init_12 w) rfl (R_I (o := 0) (by decide +kernel)) ?_
  refine mW_aload_n (j := 0) dX4_init_65 rfl rfl ?_
  refine mW_iconst (v := 0) dX4_init_66 (by decide) ?_
  refine mW_put (ty := .int) (w2 := sfi (wR b qX4_init_12 w) b 7 0) dX4_init_67 p_X4_46 (R_k (o := 0) (x := (4, 0)) (by decide +kernel) (by decide +kernel)) (Nat.le_of_ble_eq_true rfl) (by first | rfl | decide | (repeat' split) <;> rfl) rfl (hN_sfi _ _ _ _) (hk_sfi _ _ _ _) (mE_sfi (R_k (o := 0) (x := (4, 0)) (by decide +kernel) (by decide +kernel)) (by decide) (ob_4_7 _ _ _)) ?_
  refine mW_ws (st2 := []) (w2 := wR b qX4_init_13 w) rfl (R_I (o := 0) (by decide +kernel)) ?_
  refine mW_aload_n (j := 0) dX4_init_70 rfl rfl ?_
  refine mW_iconst (v := 0) dX4_init_71 (by decide) ?_
  refine mW_put (ty := .int) (w2 := sfi (wR b qX4_init_13 w) b 8 0) dX4_init_72 p_X4_49 (R_k (o := 0) (x := (4, 0)) (by decide +kernel) (by decide +kernel)) (Nat.le_of_ble_eq_true rfl) (by first | rfl | decide | (repeat' split) <;> rfl) rfl (hN_sfi _ _ _ _) (hk_sfi _ _ _ _) (mE_sfi (R_k (o := 0) (x := (4, 0)) (by decide +kernel) (by decide +kernel)) (by decide) (ob_4_8 _ _ _)) ?_
  refine mW_ws (st2 := []) (w2 := wR b qX4_init_14 w) rfl (R_I (o := 0) (by decide +kernel)) ?_
  refine mW_aload_n (j := 0) dX4_init_75 rfl rfl ?_
  refine mW_iconst (v := 0) dX4_init_76 (by decide) ?_
  refine mW_put (ty := .int) (w2 := sfi (wR b qX4_init_14 w) b 9 0) dX4_init_77 p_X4_52 (R_k (o := 0) (x := (4, 0)) (by decide +kernel) (by decide +kernel)) (Nat.le_of_ble_eq_true rfl) (by first | rfl | decide | (repeat' split) <;> rfl) rfl (hN_sfi _ _ _ _) (hk_sfi _ _ _ _) (mE_sfi (R_k (o := 0) (x := (4, 0)) (by decide +kernel) (by decide +kernel)) (by decide) (ob_4_9 _ _ _)) ?_
  refine mW_ws (st2 := []) (w2 := wR b qX4_init_15 w) rfl (R_I (o := 0) (by decide +kernel)) ?_
  refine mW_aload_n (j := 0) dX4_init_80 rfl rfl ?_
  refine mW_iconst (v := 0) dX4_init_81 (by decide) ?_
  refine mW_put (ty := .boolean) (w2 := sfi (wR b qX4_init_15 w) b 10 0) dX4_init_82 p_X4_55 (R_k (o := 0) (x := (4, 0)) (by decide +kernel) (by decide +kernel)) (Nat.le_of_ble_eq_true rfl) (by first | rfl | decide | (repeat' split) <;> rfl) rfl (hN_sfi _ _ _ _) (hk_sfi _ _ _ _) (mE_sfi (R_k (o := 0) (x := (4, 0)) (by decide +kernel) (by decide +kernel)) (by decide) (ob_4_10 _ _ _)) ?_
  refine mW_ws (st2 := []) (w2 := wR b qX4_init_16 w) rfl (R_I (o := 0) (by decide +kernel)) ?_
  exact mW_vret dX4_init_85 rfl ⟨rfl, rfl⟩
theorem mk0_X2 : ∀ (w : mH) (a : Nat), hfi w a = (fun _ => 0) → hfl w a = (fun _ => 0) → hfr w a = (fun _ => none) → ∀ j, j < 3 → defaultValue (tyX2 j) = vp_V (mOb w a 2) j := by
  intro w a h1 h2 h3 j hj
  simp only [mOb, h1, h2, h3]
  revert j
  decide
theorem u233 : (Cond.methodLink "LineFollowerBench$History" 3 ⟨"java/lang/Object", "<init>", "()V"⟩ : Cond) ∈ mTs := mTs_in 233 (by decide +kernel) (by decide +kernel)
theorem u234 : (Cond.classLink "LineFollowerBench$History" 9 "LineFollowerBench$Setup" : Cond) ∈ mTs := mTs_in 234 (by decide +kernel) (by decide +kernel)
theorem p_X2_11 : mPut "LineFollowerBench$History" 11 2 0 (.array (.object "LineFollowerBench$Setup")) true := ⟨RX2, TX2, 3, "LineFollowerBench$History", tyX2, rfl, by decide, in_X2, u237, Or.inl rfl, by decide, tyX2_ok, nmX2, by decide +kernel, rfl, fun _ => rfl⟩
theorem ob_2_0 (w : mH) (a : Nat) (v : Option Nat) : mOb (sfr w a 0 v) a 2 = (mOb w a 2).set 0 (va_rf v) := by simp [mOb, hfi_sfr, hfl_sfr, hfr_sfr, up2]
theorem u114 : (Cond.instantiable "LineFollowerBench$Setup" 5 : Cond) ∈ mTs := mTs_in 114 (by decide +kernel) (by decide +kernel)
theorem mk_X2_9 : mMk "LineFollowerBench$History" 9 3 5 := ⟨RX3, TX3, tyX3, rfl, in_X3, tyX3_ok, u234, u114, u71, by decide, mk0_X3⟩
theorem u117 : (Cond.code ⟨"LineFollowerBench$Setup", "<init>", "()V"⟩ prog_5_method_1_code 1 (none : Option ClassFile.FieldType) : Cond) ∈ mTs := mTs_in 117 (by decide +kernel) (by decide +kernel)
theorem co_X3_init : mCode mX3_init := ⟨u117, u71, by decide⟩
theorem v236 : (Cond.methodLinkNest "LineFollowerBench$History" 24 ⟨"LineFollowerBench$Setup", "<init>", "()V"⟩ "LineFollowerBench" : Cond) ∈ lw_tbl := List.mem_of_getElem? (i := 236) (by decide +kernel)
theorem u116 : (Cond.instanceMethod ⟨"LineFollowerBench$Setup", "<init>", "()V"⟩ : Cond) ∈ mTs := mTs_in 116 (by decide +kernel) (by decide +kernel)
theorem l_X2_24 : mLinkIN "LineFollowerBench$History" 24 0 mX3_init "LineFollowerBench" := ⟨⟨by decide, by decide, by decide +kernel⟩, co_X3_init, v236, u116, rfl, rfl⟩
abbrev mX2_init : mM := (yX2_init, cX2_init, 2, none, [])
def qX2_init_1 : mQ := qVn (q0 2) (21, 6)
def qX2_init_2 : mQ := qVr qX2_init_1 0 0 1
def qX2_init_3 : mQ := qVi qX2_init_2 0 1 0
def qX2_init_4 : mQ := qVi qX2_init_3 0 2 0
def qX2_init_5 : mQ := qVp qX2_init_4 qX3_init_15
def qX2_init_6 : mQ := qVs qX2_init_5 1 0 2
def qX2_init_7 : mQ := qVp qX2_init_6 qX3_init_15
def qX2_init_8 : mQ := qVs qX2_init_7 1 1 19
def qX2_init_9 : mQ := qVp qX2_init_8 qX3_init_15
def qX2_init_10 : mQ := qVs qX2_init_9 1 2 36
def qX2_init_11 : mQ := qVp qX2_init_10 qX3_init_15
def qX2_init_12 : mQ := qVs qX2_init_11 1 3 53
def qX2_init_13 : mQ := qVp qX2_init_12 qX3_init_15
def qX2_init_14 : mQ := qVs qX2_init_13 1 4 70
def qX2_init_15 : mQ := qVp qX2_init_14 qX3_init_15
def qX2_init_16 : mQ := qVs qX2_init_15 1 5 87
set_option maxHeartbeats 4000000 in
set_option maxRecDepth 100000 in
theorem iX2_init {G : mG} {b : Nat} {w : mH} : mC G mX2_init 3 103 570 [.ref b] (wR b (q0 2) w) (mEq (.inl none) (wR b qX2_init_16 w)) := by
  refine mC_of (by decide +kernel) rfl (Nat.le_of_ble_eq_true rfl) rfl ?_
  refine mW_aload_n (j := 0) dX2_init_0 rfl rfl ?_
  refine mW_objInit dX2_init_1 u233 u111 u112 (Nat.le_of_ble_eq_true rfl) (by decide) ?_
  refine mW_aload_n (j := 0) dX2_init_4 rfl rfl ?_
  refine mW_bipush (v := 6) dX2_init_5 (by decide) ?_
  refine mW_anew (N := 6) (kc2 := 102) (ks2 := 564) dX2_init_7 u234 (by decide) rfl (by decide) rfl rfl ?_
  refine mW_ws (st2 := [.ref (b + 1), .ref b]) (w2 := wR b qX2_init_1 w) rfl R_N ?_
  refine mW_putF (ty := .array (.object "LineFollowerBench$Setup")) (w2 := sfr (wR b qX2_init_1 w) b 0 (some (b + 1))) dX2_init_10 p_X2_11 rfl (R_k (o := 0) (x := (2, 0)) (by decide +kernel) (by decide +kernel)) (Nat.le_of_ble_eq_true rfl) (by first | rfl | decide | (repeat' split) <;> rfl) rfl (hN_sfr _ _ _ _) (hk_sfr _ _ _ _) (mE_sfr (R_k (o := 0) (x := (2, 0)) (by decide +kernel) (by decide +kernel)) (by decide) (ob_2_0 _ _ _)) ?_
  refine mW_ws (st2 := []) (w2 := wR b qX2_init_2 w) rfl (R_R (o := 0) (by decide +kernel)) ?_
  refine mW_aload_n (j := 0) dX2_init_13 rfl rfl ?_
  refine mW_iconst (v := 0) dX2_init_14 (by decide) ?_
  refine mW_put (ty := .int) (w2 := sfi (wR b qX2_init_2 w) b 1 0) dX2_init_15 p_X2_17 (R_k (o := 0) (x := (2, 0)) (by decide +kernel) (by decide +kernel)) (Nat.le_of_ble_eq_true rfl) (by first | rfl | decide | (repeat' split) <;> rfl) rfl (hN_sfi _ _ _ _) (hk_sfi _ _ _ _) (mE_sfi (R_k (o := 0) (x := (2, 0)) (by decide +kernel) (by decide +kernel)) (by decide) (ob_2_1 _ _ _)) ?_
  refine mW_ws (st2 := []) (w2 := wR b qX2_init_3 w) rfl (R_I (o := 0) (by decide +kernel)) ?_
  refine mW_aload_n (j := 0) dX2_init_18 rfl rfl ?_
  refine mW_iconst (v := 0) dX2_init_19 (by decide) ?_
  refine mW_put (ty := .int) (w2 := sfi (wR b qX2_init_3 w) b 2 0) dX2_init_20 p_X2_21 (R_k (o := 0) (x := (2, 0)) (by decide +kernel) (by decide +kernel)) (Nat.le_of_ble_eq_true rfl) (by first | rfl | decide | (repeat' split) <;> rfl) rfl (hN_sfi _ _ _ _) (hk_sfi _ _ _ _) (mE_sfi (R_k (o := 0) (x := (2, 0)) (by decide +kernel) (by decide +kernel)) (by decide) (ob_2_2 _ _ _)) ?_
  refine mW_ws (st2 := []) (w2 := wR b qX2_init_4 w) rfl (R_I (o := 0) (by decide +kernel)) ?_
  refine mW_iconst (v := 0) dX2_init_23 (by decide) ?_
  refine mW_istore_n (lv2 := [(1, .int 0), (0, .ref b)]) dX2_init_24 rfl (by decide) rfl ?_
  refine mW_iload_n (j := 0) dX2_init_25 rfl rfl ?_
  refine mW_bipush (v := 6) dX2_init_26 (by decide) ?_
  refine mW_icmp_ge (tgt := 50) dX2_init_28 (by decide) (fun c => absurd c (by decide)) (fun _ => ?_)
  refine mW_aload_n (j := 1) dX2_init_31 rfl rfl ?_
  refine mW_getR dX2_init_32 f_X2_11 (R_k (o := 0) (x := (2, 0)) (by decide +kernel) (by decide +kernel)) rfl (R_r (o := 0) (k := 0) (t := 1) (by decide +kernel) (by decide +kernel)) ?_
  refine mW_iload_n (j := 0) dX2_init_35 rfl rfl ?_
  refine mW_new (ci := 3) (N := 5) (kc2 := 101) (ks2 := 559) dX2_init_36 mk_X2_9 rfl rfl ?_
  refine mW_ws (st2 := [.ref (b + 2), .int 0, .ref (b + 1)]) (w2 := wR (b + 2) (q0 3) (wR b qX2_init_4 w)) rfl R_0 ?_
  refine mW_dup dX2_init_39 rfl ?_
  refine mW_callINe (As := []) (rest := [.ref (b + 2), .int 0, .ref (b + 1)]) (b := b + 2) (kc2 := 85) (ks2 := 470) (v := none) (w2 := wR (b + 2) qX3_init_15 (wR b qX2_init_4 w)) dX2_init_40 l_X2_24 rfl iX3_init (Nat.le_of_ble_eq_true rfl) (by decide) rfl rfl ?_
  refine mW_ws (st2 := [.ref (b + 2), .int 0, .ref (b + 1)]) (w2 := wR b qX2_init_5 w) rfl (R_P (b := b) (Q := qX2_init_4) (Q' := qX3_init_15) (w := w)) ?_
  refine mW_aast dX2_init_43 (R_k (o := 1) (x := (21, 6)) (by decide +kernel) (by decide +kernel)) (by unfold vp_in; decide) (R_k (o := 2) (x := (3, 0)) (by decide +kernel) (by decide +kernel)) ?_
  refine mW_ws (st2 := []) (w2 := wR b qX2_init_6 w) rfl (R_S (by decide +kernel)) ?_
  refine mW_iinc (j := 0) (v := 1) (lv2 := [(1, .int 1), (0, .ref b)]) dX2_init_44 rfl (by decide) (by decide) rfl ?_
  refine mW_goto (tgt := 25) dX2_init_47 (by decide) ?_
  refine mW_iload_n (j := 0) dX2_init_25 rfl rfl ?_
  refine mW_bipush (v := 6) dX2_init_26 (by decide) ?_
  refine mW_icmp_ge (tgt := 50) dX2_init_28 (by decide) (fun c => absurd c (by decide)) (fun _ => ?_)
  refine mW_aload_n (j := 1) dX2_init_31 rfl rfl ?_
  refine mW_getR dX2_init_32 f_X2_11 (R_k (o := 0) (x := (2, 0)) (by decide +kernel) (by decide +kernel)) rfl (R_r (o := 0) (k := 0) (t := 1) (by decide +kernel) (by decide +kernel)) ?_
  refine mW_iload_n (j := 0) dX2_init_35 rfl rfl ?_
  refine mW_new (ci := 3) (N := 5) (kc2 := 84) (ks2 := 465) dX2_init_36 mk_X2_9 rfl rfl ?_
  refine mW_ws (st2 := [.ref (b + 19), .int 1, .ref (b + 1)]) (w2 := wR (b + 19) (q0 3) (wR b qX2_init_6 w)) rfl R_0 ?_
  refine mW_dup dX2_init_39 rfl ?_
  refine mW_callINe (As := []) (rest := [.ref (b + 19), .int 1, .ref (b + 1)]) (b := b + 19) (kc2 := 68) (ks2 := 376) (v := none) (w2 := wR (b + 19) qX3_init_15 (wR b qX2_init_6 w)) dX2_init_40 l_X2_24 rfl iX3_init (Nat.le_of_ble_eq_true rfl) (by decide) rfl rfl ?_
  refine mW_ws (st2 := [.ref (b + 19), .int 1, .ref (b + 1)]) (w2 := wR b qX2_init_7 w) rfl (R_P (b := b) (Q := qX2_init_6) (Q' := qX3_init_15) (w := w)) ?_
  refine mW_aast dX2_init_43 (R_k (o := 1) (x := (21, 6)) (by decide +kernel) (by decide +kernel)) (by unfold vp_in; decide) (R_k (o := 19) (x := (3, 0)) (by decide +kernel) (by decide +kernel)) ?_
  refine mW_ws (st2 := []) (w2 := wR b qX2_init_8 w) rfl (R_S (by decide +kernel)) ?_
  refine mW_iinc (j := 0) (v := 2) (lv2 := [(1, .int 2), (0, .ref b)]) dX2_init_44 rfl (by decide) (by decide) rfl ?_
  refine mW_goto (tgt := 25) dX2_init_47 (by decide) ?_
  refine mW_iload_n (j := 0) dX2_init_25 rfl rfl ?_
  refine mW_bipush (v := 6) dX2_init_26 (by decide) ?_
  refine mW_icmp_ge (tgt := 50) dX2_init_28 (by decide) (fun c => absurd c (by decide)) (fun _ => ?_)
  refine mW_aload_n (j := 1) dX2_init_31 rfl rfl ?_
  refine mW_getR dX2_init_32 f_X2_11 (R_k (o := 0) (x := (2, 0)) (by decide +kernel) (by decide +kernel)) rfl (R_r (o := 0) (k := 0) (t := 1) (by decide +kernel) (by decide +kernel)) ?_
  refine mW_iload_n (j := 0) dX2_init_35 rfl rfl ?_
  refine mW_new (ci := 3) (N := 5) (kc2 := 67) (ks2 := 371) dX2_init_36 mk_X2_9 rfl rfl ?_
  refine mW_ws (st2 := [.ref (b + 36), .int 2, .ref (b + 1)]) (w2 := wR (b + 36) (q0 3) (wR b qX2_init_8 w)) rfl R_0 ?_
  refine mW_dup dX2_init_39 rfl ?_
  refine mW_callINe (As := []) (rest := [.ref (b + 36), .int 2, .ref (b + 1)]) (b := b + 36) (kc2 := 51) (ks2 := 282) (v := none) (w2 := wR (b + 36) qX3_init_15 (wR b qX2_init_8 w)) dX2_init_40 l_X2_24 rfl iX3_init (Nat.le_of_ble_eq_true rfl) (by decide) rfl rfl ?_
  refine mW_ws (st2 := [.ref (b + 36), .int 2, .ref (b + 1)]) (w2 := wR b qX2_init_9 w) rfl (R_P (b := b) (Q := qX2_init_8) (Q' := qX3_init_15) (w := w)) ?_
  refine mW_aast dX2_init_43 (R_k (o := 1) (x := (21, 6)) (by decide +kernel) (by decide +kernel)) (by unfold vp_in; decide) (R_k (o := 36) (x := (3, 0)) (by decide +kernel) (by decide +kernel)) ?_
  refine mW_ws (st2 := []) (w2 := wR b qX2_init_10 w) rfl (R_S (by decide +kernel)) ?_
  refine mW_iinc (j := 0) (v := 3) (lv2 := [(1, .int 3), (0, .ref b)]) dX2_init_44 rfl (by decide) (by decide) rfl ?_
  refine mW_goto (tgt := 25) dX2_init_47 (by decide) ?_
  refine mW_iload_n (j := 0) dX2_init_25 rfl rfl ?_
  refine mW_bipush (v := 6) dX2_init_26 (by decide) ?_
  refine mW_icmp_ge (tgt := 50) dX2_init_28 (by decide) (fun c => absurd c (by decide)) (fun _ => ?_)
  refine mW_aload_n (j := 1) dX2_init_31 rfl rfl ?_
  refine mW_getR dX2_init_32 f_X2_11 (R_k (o := 0) (x := (2, 0)) (by decide +kernel) (by decide +kernel)) rfl (R_r (o := 0) (k := 0) (t := 1) (by decide +kernel) (by decide +kernel)) ?_
  refine mW_iload_n (j := 0) dX2_init_35 rfl rfl ?_
  refine mW_new (ci := 3) (N := 5) (kc2 := 50) (ks2 := 277) dX2_init_36 mk_X2_9 rfl rfl ?_
  refine mW_ws (st2 := [.ref (b + 53), .int 3, .ref (b + 1)]) (w2 := wR (b + 53) (q0 3) (wR b qX2_init_10 w)) rfl R_0 ?_
  refine mW_dup dX2_init_39 rfl ?_
  refine mW_callINe (As := []) (rest := [.ref (b + 53), .int 3, .ref (b + 1)]) (b := b + 53) (kc2 := 34) (ks2 := 188) (v := none) (w2 := wR (b + 53) qX3_init_15 (wR b qX2_init_10 w)) dX2_init_40 l_X2_24 rfl iX3_init (Nat.le_of_ble_eq_true rfl) (by decide) rfl rfl ?_
  refine mW_ws (st2 := [.ref (b + 53), .int 3, .ref (b + 1)]) (w2 := wR b qX2_init_11 w) rfl (R_P (b := b) (Q := qX2_init_10) (Q' := qX3_init_15) (w := w)) ?_
  refine mW_aast dX2_init_43 (R_k (o := 1) (x := (21, 6)) (by decide +kernel) (by decide +kernel)) (by unfold vp_in; decide) (R_k (o := 53) (x := (3, 0)) (by decide +kernel) (by decide +kernel)) ?_
  refine mW_ws (st2 := []) (w2 := wR b qX2_init_12 w) rfl (R_S (by decide +kernel)) ?_
  refine mW_iinc (j := 0) (v := 4) (lv2 := [(1, .int 4), (0, .ref b)]) dX2_init_44 rfl (by decide) (by decide) rfl ?_
  refine mW_goto (tgt := 25) dX2_init_47 (by decide) ?_
  refine mW_iload_n (j := 0) dX2_init_25 rfl rfl ?_
  refine mW_bipush (v := 6) dX2_init_26 (by decide) ?_
  refine mW_icmp_ge (tgt := 50) dX2_init_28 (by decide) (fun c => absurd c (by decide)) (fun _ => ?_)
  refine mW_aload_n (j := 1) dX2_init_31 rfl rfl ?_
  refine mW_getR dX2_init_32 f_X2_11 (R_k (o := 0) (x := (2, 0)) (by decide +kernel) (by decide +kernel)) rfl (R_r (o := 0) (k := 0) (t := 1) (by decide +kernel) (by decide +kernel)) ?_
  refine mW_iload_n (j := 0) dX2_init_35 rfl rfl ?_
  refine mW_new (ci := 3) (N := 5) (kc2 := 33) (ks2 := 183) dX2_init_36 mk_X2_9 rfl rfl ?_
  refine mW_ws (st2 := [.ref (b + 70), .int 4, .ref (b + 1)]) (w2 := wR (b + 70) (q0 3) (wR b qX2_init_12 w)) rfl R_0 ?_
  refine mW_dup dX2_init_39 rfl ?_
  refine mW_callINe (As := []) (rest := [.ref (b + 70), .int 4, .ref (b + 1)]) (b := b + 70) (kc2 := 17) (ks2 := 94) (v := none) (w2 := wR (b + 70) qX3_init_15 (wR b qX2_init_12 w)) dX2_init_40 l_X2_24 rfl iX3_init (Nat.le_of_ble_eq_true rfl) (by decide) rfl rfl ?_
  refine mW_ws (st2 := [.ref (b + 70), .int 4, .ref (b + 1)]) (w2 := wR b qX2_init_13 w) rfl (R_P (b := b) (Q := qX2_init_12) (Q' := qX3_init_15) (w := w)) ?_
  refine mW_aast dX2_init_43 (R_k (o := 1) (x := (21, 6)) (by decide +kernel) (by decide +kernel)) (by unfold vp_in; decide) (R_k (o := 70) (x := (3, 0)) (by decide +kernel) (by decide +kernel)) ?_
  refine mW_ws (st2 := []) (w2 := wR b qX2_init_14 w) rfl (R_S (by decide +kernel)) ?_
  refine mW_iinc (j := 0) (v := 5) (lv2 := [(1, .int 5), (0, .ref b)]) dX2_init_44 rfl (by decide) (by decide) rfl ?_
  refine mW_goto (tgt := 25) dX2_init_47 (by decide) ?_
  refine mW_iload_n (j := 0) dX2_init_25 rfl rfl ?_
  refine mW_bipush (v := 6) dX2_init_26 (by decide) ?_
  refine mW_icmp_ge (tgt := 50) dX2_init_28 (by decide) (fun c => absurd c (by decide)) (fun _ => ?_)
  refine mW_aload_n (j := 1) dX2_init_31 rfl rfl ?_
  refine mW_getR dX2_init_32 f_X2_11 (R_k (o := 0) (x := (2, 0)) (by decide +kernel) (by decide +kernel)) rfl (R_r (o := 0) (k := 0) (t := 1) (by decide +kernel) (by decide +kernel)) ?_
  refine mW_iload_n (j := 0) dX2_init_35 rfl rfl ?_
  refine mW_new (ci := 3) (N := 5) (kc2 := 16) (ks2 := 89) dX2_init_36 mk_X2_9 rfl rfl ?_
  refine mW_ws (st2 := [.ref (b + 87), .int 5, .ref (b + 1)]) (w2 := wR (b + 87) (q0 3) (wR b qX2_init_14 w)) rfl R_0 ?_
  refine mW_dup dX2_init_39 rfl ?_
  refine mW_callINe (As := []) (rest := [.ref (b + 87), .int 5, .ref (b + 1)]) (b := b + 87) (kc2 := 0) (ks2 := 0) (v := none) (w2 := wR (b + 87) qX3_init_15 (wR b qX2_init_14 w)) dX2_init_40 l_X2_24 rfl iX3_init (Nat.le_of_ble_eq_true rfl) (by decide) rfl rfl ?_
  refine mW_ws (st2 := [.ref (b + 87), .int 5, .ref (b + 1)]) (w2 := wR b qX2_init_15 w) rfl (R_P (b := b) (Q := qX2_init_14) (Q' := qX3_init_15) (w := w)) ?_
  refine mW_aast dX2_init_43 (R_k (o := 1) (x := (21, 6)) (by decide +kernel) (by decide +kernel)) (by unfold vp_in; decide) (R_k (o := 87) (x := (3, 0)) (by decide +kernel) (by decide +kernel)) ?_
  refine mW_ws (st2 := []) (w2 := wR b qX2_init_16 w) rfl (R_S (by decide +kernel)) ?_
  refine mW_iinc (j := 0) (v := 6) (lv2 := [(1, .int 6), (0, .ref b)]) dX2_init_44 rfl (by decide) (by decide) rfl ?_
  refine mW_goto (tgt := 25) dX2_init_47 (by decide) ?_
  refine mW_iload_n (j := 0) dX2_init_25 rfl rfl ?_
  refine mW_bipush (v := 6) dX2_init_26 (by decide) ?_
  refine mW_icmp_ge (tgt := 50) dX2_init_28 (by decide) (fun _ => ?_) (fun c => absurd (by decide) c)
  exact mW_vret dX2_init_50 rfl ⟨rfl, rfl⟩
theorem mk0_X8 : ∀ (w : mH) (a : Nat), hfi w a = (fun _ => 0) → hfl w a = (fun _ => 0) → hfr w a = (fun _ => none) → ∀ j, j < 6 → defaultValue (tyX8 j) = vp_V (mOb w a 8) j := by
  intro w a h1 h2 h3 j hj
  simp only [mOb, h1, h2, h3]
  revert j
  decide
theorem u253 : (Cond.methodLink "LineFollowerBench$TrackReader" 3 ⟨"java/lang/Object", "<init>", "()V"⟩ : Cond) ∈ mTs := mTs_in 253 (by decide +kernel) (by decide +kernel)
theorem u278 : (Cond.arrayClass .char : Cond) ∈ mTs := mTs_in 278 (by decide +kernel) (by decide +kernel)
theorem p_X8_9 : mPut "LineFollowerBench$TrackReader" 9 8 0 (.array .char) true := ⟨RX8, TX8, 6, "LineFollowerBench$TrackReader", tyX8, rfl, by decide, in_X8, u256, Or.inl rfl, by decide, tyX8_ok, nmX8, by decide +kernel, rfl, fun _ => rfl⟩
theorem ob_8_0 (w : mH) (a : Nat) (v : Option Nat) : mOb (sfr w a 0 v) a 8 = (mOb w a 8).set 0 (va_rf v) := by simp [mOb, hfi_sfr, hfl_sfr, hfr_sfr, up2]
theorem u254 : (Cond.classLink "LineFollowerBench$TrackReader" 22 "LineFollowerBench$Track" : Cond) ∈ mTs := mTs_in 254 (by decide +kernel) (by decide +kernel)
theorem mk_X8_22 : mMk "LineFollowerBench$TrackReader" 22 7 8 := ⟨RX7, TX7, tyX7, rfl, in_X7, tyX7_ok, u254, u169, u74, by decide, mk0_X7⟩
theorem v255 : (Cond.methodLinkNest "LineFollowerBench$TrackReader" 24 ⟨"LineFollowerBench$Track", "<init>", "()V"⟩ "LineFollowerBench" : Cond) ∈ lw_tbl := List.mem_of_getElem? (i := 255) (by decide +kernel)
theorem l_X8_24 : mLinkIN "LineFollowerBench$TrackReader" 24 0 mX7_init "LineFollowerBench" := ⟨⟨by decide, by decide, by decide +kernel⟩, co_X7_init, v255, u171, rfl, rfl⟩
theorem p_X8_25 : mPut "LineFollowerBench$TrackReader" 25 8 3 (.object "LineFollowerBench$Track") true := ⟨RX8, TX8, 6, "LineFollowerBench$TrackReader", tyX8, rfl, by decide, in_X8, u261, Or.inl rfl, by decide, tyX8_ok, nmX8, by decide +kernel, rfl, fun _ => rfl⟩
theorem ob_8_3 (w : mH) (a : Nat) (v : Option Nat) : mOb (sfr w a 3 v) a 8 = (mOb w a 8).set 3 (va_rf v) := by simp [mOb, hfi_sfr, hfl_sfr, hfr_sfr, up2]
abbrev mX8_init : mM := (yX8_init, cX8_init, 1, none, [])
def qX8_init_1 : mQ := qVn (q0 8) (18, 50)
def qX8_init_2 : mQ := qVr qX8_init_1 0 0 1
def qX8_init_3 : mQ := qVi qX8_init_2 0 1 0
def qX8_init_4 : mQ := qVi qX8_init_3 0 2 (-1)
def qX8_init_5 : mQ := qVp qX8_init_4 qX7_init_14
def qX8_init_6 : mQ := qVr qX8_init_5 0 3 2
def qX8_init_7 : mQ := qVi qX8_init_6 0 4 0
def qX8_init_8 : mQ := qVi qX8_init_7 0 5 0
set_option maxHeartbeats 4000000 in
set_option maxRecDepth 100000 in
theorem iX8_init {G : mG} {b : Nat} {w : mH} : mC G mX8_init 2 8 94 [.ref b] (wR b (q0 8) w) (mEq (.inl none) (wR b qX8_init_8 w)) := by
  refine mC_of (by decide +kernel) rfl (Nat.le_of_ble_eq_true rfl) rfl ?_
  refine mW_aload_n (j := 0) dX8_init_0 rfl rfl ?_
  refine mW_objInit dX8_init_1 u253 u111 u112 (Nat.le_of_ble_eq_true rfl) (by decide) ?_
  refine mW_aload_n (j := 0) dX8_init_4 rfl rfl ?_
  refine mW_bipush (v := 50) dX8_init_5 (by decide) ?_
  refine mW_newC (N := 50) (kc2 := 7) (ks2 := 44) dX8_init_7 u278 (by decide) rfl (by decide) rfl rfl ?_
  refine mW_ws (st2 := [.ref (b + 1), .ref b]) (w2 := wR b qX8_init_1 w) rfl R_N ?_
  refine mW_putF (ty := .array .char) (w2 := sfr (wR b qX8_init_1 w) b 0 (some (b + 1))) dX8_init_9 p_X8_9 rfl (R_k (o := 0) (x := (8, 0)) (by decide +kernel) (by decide +kernel)) (Nat.le_of_ble_eq_true rfl) (by first | rfl | decide | (repeat' split) <;> rfl) rfl (hN_sfr _ _ _ _) (hk_sfr _ _ _ _) (mE_sfr (R_k (o := 0) (x := (8, 0)) (by decide +kernel) (by decide +kernel)) (by decide) (ob_8_0 _ _ _)) ?_
  refine mW_ws (st2 := []) (w2 := wR b qX8_init_2 w) rfl (R_R (o := 0) (by decide +kernel)) ?_
  refine mW_aload_n (j := 0) dX8_init_12 rfl rfl ?_
  refine mW_iconst (v := 0) dX8_init_13 (by decide) ?_
  refine mW_put (ty := .int) (w2 := sfi (wR b qX8_init_2 w) b 1 0) dX8_init_14 p_X8_15 (R_k (o := 0) (x := (8, 0)) (by decide +kernel) (by decide +kernel)) (Nat.le_of_ble_eq_true rfl) (by first | rfl | decide | (repeat' split) <;> rfl) rfl (hN_sfi _ _ _ _) (hk_sfi _ _ _ _) (mE_sfi (R_k (o := 0) (x := (8, 0)) (by decide +kernel) (by decide +kernel)) (by decide) (ob_8_1 _ _ _)) ?_
  refine mW_ws (st2 := []) (w2 := wR b qX8_init_3 w) rfl (R_I (o := 0) (by decide +kernel)) ?_
  refine mW_aload_n (j := 0) dX8_init_17 rfl rfl ?_
  refine mW_iconst (v := (-1)) dX8_init_18 (by decide) ?_
  refine mW_put (ty := .int) (w2 := sfi (wR b qX8_init_3 w) b 2 (-1)) dX8_init_19 p_X8_19 (R_k (o := 0) (x := (8, 0)) (by decide +kernel) (by decide +kernel)) (Nat.le_of_ble_eq_true rfl) (by first | rfl | decide | (repeat' split) <;> rfl) rfl (hN_sfi _ _ _ _) (hk_sfi _ _ _ _) (mE_sfi (R_k (o := 0) (x := (8, 0)) (by decide +kernel) (by decide +kernel)) (by decide) (ob_8_2 _ _ _)) ?_
  refine mW_ws (st2 := []) (w2 := wR b qX8_init_4 w) rfl (R_I (o := 0) (by decide +kernel)) ?_
  refine mW_aload_n (j := 0) dX8_init_22 rfl rfl ?_
  refine mW_new (ci := 7) (N := 8) (kc2 := 6) (ks2 := 36) dX8_init_23 mk_X8_22 rfl rfl ?_
  refine mW_ws (st2 := [.ref (b + 2), .ref b]) (w2 := wR (b + 2) (q0 7) (wR b qX8_init_4 w)) rfl R_0 ?_
  refine mW_dup dX8_init_26 rfl ?_
  refine mW_callINe (As := []) (rest := [.ref (b + 2), .ref b]) (b := b + 2) (kc2 := 0) (ks2 := 0) (v := none) (w2 := wR (b + 2) qX7_init_14 (wR b qX8_init_4 w)) dX8_init_27 l_X8_24 rfl iX7_init (Nat.le_of_ble_eq_true rfl) (by decide) rfl rfl ?_
  refine mW_ws (st2 := [.ref (b + 2), .ref b]) (w2 := wR b qX8_init_5 w) rfl (R_P (b := b) (Q := qX8_init_4) (Q' := qX7_init_14) (w := w)) ?_
  refine mW_putF (ty := .object "LineFollowerBench$Track") (w2 := sfr (wR b qX8_init_5 w) b 3 (some (b + 2))) dX8_init_30 p_X8_25 rfl (R_k (o := 0) (x := (8, 0)) (by decide +kernel) (by decide +kernel)) (Nat.le_of_ble_eq_true rfl) (by first | rfl | decide | (repeat' split) <;> rfl) rfl (hN_sfr _ _ _ _) (hk_sfr _ _ _ _) (mE_sfr (R_k (o := 0) (x := (8, 0)) (by decide +kernel) (by decide +kernel)) (by decide) (ob_8_3 _ _ _)) ?_
  refine mW_ws (st2 := []) (w2 := wR b qX8_init_6 w) rfl (R_R (o := 0) (by decide +kernel)) ?_
  refine mW_aload_n (j := 0) dX8_init_33 rfl rfl ?_
  refine mW_iconst (v := 0) dX8_init_34 (by decide) ?_
  refine mW_put (ty := .int) (w2 := sfi (wR b qX8_init_6 w) b 4 0) dX8_init_35 p_X8_29 (R_k (o := 0) (x := (8, 0)) (by decide +kernel) (by decide +kernel)) (Nat.le_of_ble_eq_true rfl) (by first | rfl | decide | (repeat' split) <;> rfl) rfl (hN_sfi _ _ _ _) (hk_sfi _ _ _ _) (mE_sfi (R_k (o := 0) (x := (8, 0)) (by decide +kernel) (by decide +kernel)) (by decide) (ob_8_4 _ _ _)) ?_
  refine mW_ws (st2 := []) (w2 := wR b qX8_init_7 w) rfl (R_I (o := 0) (by decide +kernel)) ?_
  refine mW_aload_n (j := 0) dX8_init_38 rfl rfl ?_
  refine mW_iconst (v := 0) dX8_init_39 (by decide) ?_
  refine mW_put (ty := .int) (w2 := sfi (wR b qX8_init_7 w) b 5 0) dX8_init_40 p_X8_32 (R_k (o := 0) (x := (8, 0)) (by decide +kernel) (by decide +kernel)) (Nat.le_of_ble_eq_true rfl) (by first | rfl | decide | (repeat' split) <;> rfl) rfl (hN_sfi _ _ _ _) (hk_sfi _ _ _ _) (mE_sfi (R_k (o := 0) (x := (8, 0)) (by decide +kernel) (by decide +kernel)) (by decide) (ob_8_5 _ _ _)) ?_
  refine mW_ws (st2 := []) (w2 := wR b qX8_init_8 w) rfl (R_I (o := 0) (by decide +kernel)) ?_
  exact mW_vret dX8_init_43 rfl ⟨rfl, rfl⟩
theorem mk0_X9 : ∀ (w : mH) (a : Nat), hfi w a = (fun _ => 0) → hfl w a = (fun _ => 0) → hfr w a = (fun _ => none) → ∀ j, j < 4 → defaultValue (tyX9 j) = vp_V (mOb w a 9) j := by
  intro w a h1 h2 h3 j hj
  simp only [mOb, h1, h2, h3]
  revert j
  decide
theorem u401 : (Cond.methodLink "LineFollowerBench$Tuner" 3 ⟨"java/lang/Object", "<init>", "()V"⟩ : Cond) ∈ mTs := mTs_in 401 (by decide +kernel) (by decide +kernel)
theorem u402 : (Cond.classLink "LineFollowerBench$Tuner" 9 "LineFollowerBench$Simulation" : Cond) ∈ mTs := mTs_in 402 (by decide +kernel) (by decide +kernel)
theorem u313 : (Cond.instantiable "LineFollowerBench$Simulation" 11 : Cond) ∈ mTs := mTs_in 313 (by decide +kernel) (by decide +kernel)
theorem mk_X9_9 : mMk "LineFollowerBench$Tuner" 9 4 11 := ⟨RX4, TX4, tyX4, rfl, in_X4, tyX4_ok, u402, u313, u81, by decide, mk0_X4⟩
theorem u316 : (Cond.code ⟨"LineFollowerBench$Simulation", "<init>", "()V"⟩ prog_6_method_1_code 1 (none : Option ClassFile.FieldType) : Cond) ∈ mTs := mTs_in 316 (by decide +kernel) (by decide +kernel)
theorem co_X4_init : mCode mX4_init := ⟨u316, u81, by decide⟩
theorem v403 : (Cond.methodLinkNest "LineFollowerBench$Tuner" 11 ⟨"LineFollowerBench$Simulation", "<init>", "()V"⟩ "LineFollowerBench" : Cond) ∈ lw_tbl := List.mem_of_getElem? (i := 403) (by decide +kernel)
theorem u315 : (Cond.instanceMethod ⟨"LineFollowerBench$Simulation", "<init>", "()V"⟩ : Cond) ∈ mTs := mTs_in 315 (by decide +kernel) (by decide +kernel)
theorem l_X9_11 : mLinkIN "LineFollowerBench$Tuner" 11 0 mX4_init "LineFollowerBench" := ⟨⟨by decide, by decide, by decide +kernel⟩, co_X4_init, v403, u315, rfl, rfl⟩
theorem p_X9_12 : mPut "LineFollowerBench$Tuner" 12 9 0 (.object "LineFollowerBench$Simulation") true := ⟨RX9, TX9, 4, "LineFollowerBench$Tuner", tyX9, rfl, by decide, in_X9, u406, Or.inl rfl, by decide, tyX9_ok, nmX9, by decide +kernel, rfl, fun _ => rfl⟩
theorem ob_9_0 (w : mH) (a : Nat) (v : Option Nat) : mOb (sfr w a 0 v) a 9 = (mOb w a 9).set 0 (va_rf v) := by simp [mOb, hfi_sfr, hfl_sfr, hfr_sfr, up2]
theorem u404 : (Cond.classLink "LineFollowerBench$Tuner" 18 "LineFollowerBench$Trace" : Cond) ∈ mTs := mTs_in 404 (by decide +kernel) (by decide +kernel)
theorem u359 : (Cond.instantiable "LineFollowerBench$Trace" 7 : Cond) ∈ mTs := mTs_in 359 (by decide +kernel) (by decide +kernel)
theorem mk_X9_18 : mMk "LineFollowerBench$Tuner" 18 6 7 := ⟨RX6, TX6, tyX6, rfl, in_X6, tyX6_ok, u404, u359, u82, by decide, mk0_X6⟩
theorem u362 : (Cond.code ⟨"LineFollowerBench$Trace", "<init>", "()V"⟩ prog_8_method_1_code 1 (none : Option ClassFile.FieldType) : Cond) ∈ mTs := mTs_in 362 (by decide +kernel) (by decide +kernel)
theorem co_X6_init : mCode mX6_init := ⟨u362, u82, by decide⟩
theorem v405 : (Cond.methodLinkNest "LineFollowerBench$Tuner" 20 ⟨"LineFollowerBench$Trace", "<init>", "()V"⟩ "LineFollowerBench" : Cond) ∈ lw_tbl := List.mem_of_getElem? (i := 405) (by decide +kernel)
theorem u361 : (Cond.instanceMethod ⟨"LineFollowerBench$Trace", "<init>", "()V"⟩ : Cond) ∈ mTs := mTs_in 361 (by decide +kernel) (by decide +kernel)
theorem l_X9_20 : mLinkIN "LineFollowerBench$Tuner" 20 0 mX6_init "LineFollowerBench" := ⟨⟨by decide, by decide, by decide +kernel⟩, co_X6_init, v405, u361, rfl, rfl⟩
theorem p_X9_21 : mPut "LineFollowerBench$Tuner" 21 9 1 (.object "LineFollowerBench$Trace") true := ⟨RX9, TX9, 4, "LineFollowerBench$Tuner", tyX9, rfl, by decide, in_X9, u407, Or.inl rfl, by decide, tyX9_ok, nmX9, by decide +kernel, rfl, fun _ => rfl⟩
theorem ob_9_1 (w : mH) (a : Nat) (v : Option Nat) : mOb (sfr w a 1 v) a 9 = (mOb w a 9).set 1 (va_rf v) := by simp [mOb, hfi_sfr, hfl_sfr, hfr_sfr, up2]
theorem u419 : (Cond.arrayClass .long : Cond) ∈ mTs := mTs_in 419 (by decide +kernel) (by decide +kernel)
theorem p_X9_25 : mPut "LineFollowerBench$Tuner" 25 9 2 (.array .long) true := ⟨RX9, TX9, 4, "LineFollowerBench$Tuner", tyX9, rfl, by decide, in_X9, u408, Or.inl rfl, by decide, tyX9_ok, nmX9, by decide +kernel, rfl, fun _ => rfl⟩
theorem ob_9_2 (w : mH) (a : Nat) (v : Option Nat) : mOb (sfr w a 2 v) a 9 = (mOb w a 9).set 2 (va_rf v) := by simp [mOb, hfi_sfr, hfl_sfr, hfr_sfr, up2]
theorem p_X9_29 : mPut "LineFollowerBench$Tuner" 29 9 3 (.array .int) true := ⟨RX9, TX9, 4, "LineFollowerBench$Tuner", tyX9, rfl, by decide, in_X9, u409, Or.inl rfl, by decide, tyX9_ok, nmX9, by decide +kernel, rfl, fun _ => rfl⟩
theorem ob_9_3 (w : mH) (a : Nat) (v : Option Nat) : mOb (sfr w a 3 v) a 9 = (mOb w a 9).set 3 (va_rf v) := by simp [mOb, hfi_sfr, hfl_sfr, hfr_sfr, up2]
abbrev mX9_init : mM := (yX9_init, cX9_init, 1, none, [])
def qX9_init_1 : mQ := qVp (q0 9) qX4_init_16
def qX9_init_2 : mQ := qVr qX9_init_1 0 0 1
def qX9_init_3 : mQ := qVp qX9_init_2 qX6_init_13
def qX9_init_4 : mQ := qVr qX9_init_3 0 1 9
def qX9_init_5 : mQ := qVn qX9_init_4 (17, 216)
def qX9_init_6 : mQ := qVr qX9_init_5 0 2 16
def qX9_init_7 : mQ := qVn qX9_init_6 (16, 3)
def qX9_init_8 : mQ := qVr qX9_init_7 0 3 17
set_option maxHeartbeats 4000000 in
set_option maxRecDepth 100000 in
theorem iX9_init {G : mG} {b : Nat} {w : mH} : mC G mX9_init 3 17 2066 [.ref b] (wR b (q0 9) w) (mEq (.inl none) (wR b qX9_init_8 w)) := by
  refine mC_of (by decide +kernel) rfl (Nat.le_of_ble_eq_true rfl) rfl ?_
  refine mW_aload_n (j := 0) dX9_init_0 rfl rfl ?_
  refine mW_objInit dX9_init_1 u401 u111 u112 (Nat.le_of_ble_eq_true rfl) (by decide) ?_
  refine mW_aload_n (j := 0) dX9_init_4 rfl rfl ?_
  refine mW_new (ci := 4) (N := 11) (kc2 := 16) (ks2 := 2055) dX9_init_5 mk_X9_9 rfl rfl ?_
  refine mW_ws (st2 := [.ref (b + 1), .ref b]) (w2 := wR (b + 1) (q0 4) (wR b (q0 9) w)) rfl R_0 ?_
  refine mW_dup dX9_init_8 rfl ?_
  refine mW_callINe (As := []) (rest := [.ref (b + 1), .ref b]) (b := b + 1) (kc2 := 9) (ks2 := 1427) (v := none) (w2 := wR (b + 1) qX4_init_16 (wR b (q0 9) w)) dX9_init_9 l_X9_11 rfl iX4_init (Nat.le_of_ble_eq_true rfl) (by decide) rfl rfl ?_
  refine mW_ws (st2 := [.ref (b + 1), .ref b]) (w2 := wR b qX9_init_1 w) rfl (R_P (b := b) (Q := (q0 9)) (Q' := qX4_init_16) (w := w)) ?_
  refine mW_putF (ty := .object "LineFollowerBench$Simulation") (w2 := sfr (wR b qX9_init_1 w) b 0 (some (b + 1))) dX9_init_12 p_X9_12 rfl (R_k (o := 0) (x := (9, 0)) (by decide +kernel) (by decide +kernel)) (Nat.le_of_ble_eq_true rfl) (by first | rfl | decide | (repeat' split) <;> rfl) rfl (hN_sfr _ _ _ _) (hk_sfr _ _ _ _) (mE_sfr (R_k (o := 0) (x := (9, 0)) (by decide +kernel) (by decide +kernel)) (by decide) (ob_9_0 _ _ _)) ?_
  refine mW_ws (st2 := []) (w2 := wR b qX9_init_2 w) rfl (R_R (o := 0) (by decide +kernel)) ?_
  refine mW_aload_n (j := 0) dX9_init_15 rfl rfl ?_
  refine mW_new (ci := 6) (N := 7) (kc2 := 8) (ks2 := 1420) dX9_init_16 mk_X9_18 rfl rfl ?_
  refine mW_ws (st2 := [.ref (b + 9), .ref b]) (w2 := wR (b + 9) (q0 6) (wR b qX9_init_2 w)) rfl R_0 ?_
  refine mW_dup dX9_init_19 rfl ?_
  refine mW_callINe (As := []) (rest := [.ref (b + 9), .ref b]) (b := b + 9) (kc2 := 2) (ks2 := 219) (v := none) (w2 := wR (b + 9) qX6_init_13 (wR b qX9_init_2 w)) dX9_init_20 l_X9_20 rfl iX6_init (Nat.le_of_ble_eq_true rfl) (by decide) rfl rfl ?_
  refine mW_ws (st2 := [.ref (b + 9), .ref b]) (w2 := wR b qX9_init_3 w) rfl (R_P (b := b) (Q := qX9_init_2) (Q' := qX6_init_13) (w := w)) ?_
  refine mW_putF (ty := .object "LineFollowerBench$Trace") (w2 := sfr (wR b qX9_init_3 w) b 1 (some (b + 9))) dX9_init_23 p_X9_21 rfl (R_k (o := 0) (x := (9, 0)) (by decide +kernel) (by decide +kernel)) (Nat.le_of_ble_eq_true rfl) (by first | rfl | decide | (repeat' split) <;> rfl) rfl (hN_sfr _ _ _ _) (hk_sfr _ _ _ _) (mE_sfr (R_k (o := 0) (x := (9, 0)) (by decide +kernel) (by decide +kernel)) (by decide) (ob_9_1 _ _ _)) ?_
  refine mW_ws (st2 := []) (w2 := wR b qX9_init_4 w) rfl (R_R (o := 0) (by decide +kernel)) ?_
  refine mW_aload_n (j := 0) dX9_init_26 rfl rfl ?_
  refine mW_sipush (v := 216) dX9_init_27 (by decide) ?_
  refine mW_newJ (N := 216) (kc2 := 1) (ks2 := 3) dX9_init_30 u419 (by decide) rfl (by decide) rfl rfl ?_
  refine mW_ws (st2 := [.ref (b + 16), .ref b]) (w2 := wR b qX9_init_5 w) rfl R_N ?_
  refine mW_putF (ty := .array .long) (w2 := sfr (wR b qX9_init_5 w) b 2 (some (b + 16))) dX9_init_32 p_X9_25 rfl (R_k (o := 0) (x := (9, 0)) (by decide +kernel) (by decide +kernel)) (Nat.le_of_ble_eq_true rfl) (by first | rfl | decide | (repeat' split) <;> rfl) rfl (hN_sfr _ _ _ _) (hk_sfr _ _ _ _) (mE_sfr (R_k (o := 0) (x := (9, 0)) (by decide +kernel) (by decide +kernel)) (by decide) (ob_9_2 _ _ _)) ?_
  refine mW_ws (st2 := []) (w2 := wR b qX9_init_6 w) rfl (R_R (o := 0) (by decide +kernel)) ?_
  refine mW_aload_n (j := 0) dX9_init_35 rfl rfl ?_
  refine mW_iconst (v := 3) dX9_init_36 (by decide) ?_
  refine mW_newI (N := 3) (kc2 := 0) (ks2 := 0) dX9_init_37 u148 (by decide) rfl (by decide) rfl rfl ?_
  refine mW_ws (st2 := [.ref (b + 17), .ref b]) (w2 := wR b qX9_init_7 w) rfl R_N ?_
  refine mW_putF (ty := .array .int) (w2 := sfr (wR b qX9_init_7 w) b 3 (some (b + 17))) dX9_init_39 p_X9_29 rfl (R_k (o := 0) (x := (9, 0)) (by decide +kernel) (by decide +kernel)) (Nat.le_of_ble_eq_true rfl) (by first | rfl | decide | (repeat' split) <;> rfl) rfl (hN_sfr _ _ _ _) (hk_sfr _ _ _ _) (mE_sfr (R_k (o := 0) (x := (9, 0)) (by decide +kernel) (by decide +kernel)) (by decide) (ob_9_3 _ _ _)) ?_
  refine mW_ws (st2 := []) (w2 := wR b qX9_init_8 w) rfl (R_R (o := 0) (by decide +kernel)) ?_
  exact mW_vret dX9_init_42 rfl ⟨rfl, rfl⟩
theorem u287 : (Cond.methodLink "java/lang/AbstractStringBuilder" 3 ⟨"java/lang/Object", "<init>", "()V"⟩ : Cond) ∈ mTs := mTs_in 287 (by decide +kernel) (by decide +kernel)
theorem p_J5_22 : mPut "java/lang/AbstractStringBuilder" 22 12 1 (.byte) false := ⟨RJ4, TJ4, 4, "java/lang/AbstractStringBuilder", tyJ4, rfl, by decide, in_J4, u298, Or.inl rfl, by decide, tyJ4_ok, nmJ4, by decide +kernel, rfl, fun h => by cases h⟩
theorem ob_12_1 (w : mH) (a : Nat) (v : Int32) : mOb (sfi w a 1 v) a 12 = (mOb w a 12).set 1 (.int v) := by simp [mOb, hfi_sfi, hfl_sfi, hfr_sfi, up2]
abbrev mJ5_init_d00df : mM := (yJ5_init_d00df, cJ5_init_d00df, 2, none, [])
def qJ5_init_d00df_1 : mQ := qVn (q0 12) (19, 16)
def qJ5_init_d00df_2 : mQ := qVr qJ5_init_d00df_1 0 0 1
def qJ5_init_d00df_3 : mQ := qVi qJ5_init_d00df_2 0 1 0
set_option maxHeartbeats 4000000 in
set_option maxRecDepth 100000 in
theorem iJ5_init_d00df {G : mG} {b : Nat} {w : mH} : mC G mJ5_init_d00df 1 1 16 [.ref b, .int 16] (wR b (q0 12) w) (mEq (.inl none) (wR b qJ5_init_d00df_3 w)) := by
  refine mC_of (by decide +kernel) rfl (Nat.le_of_ble_eq_true rfl) rfl ?_
  refine mW_aload_n (j := 0) dJ5_init_d00df_0 rfl rfl ?_
  refine mW_objInit dJ5_init_d00df_1 u287 u111 u112 (Nat.le_of_ble_eq_true rfl) (by decide) ?_
  refine mW_getsZ dJ5_init_d00df_4 u288 ?_
  refine mW_if_eq (tgt := 25) dJ5_init_d00df_7 (by decide) (fun c => absurd c (by decide)) (fun _ => ?_)
  refine mW_aload_n (j := 0) dJ5_init_d00df_10 rfl rfl ?_
  refine mW_iload_n (j := 1) dJ5_init_d00df_11 rfl rfl ?_
  refine mW_newB (N := 16) (kc2 := 0) (ks2 := 0) dJ5_init_d00df_12 u311 (by decide) rfl (by decide) rfl rfl ?_
  refine mW_ws (st2 := [.ref (b + 1), .ref b]) (w2 := wR b qJ5_init_d00df_1 w) rfl R_N ?_
  refine mW_put (ty := .array .byte) (w2 := sfr (wR b qJ5_init_d00df_1 w) b 0 (some (b + 1))) dJ5_init_d00df_14 p_J5_15 (R_k (o := 0) (x := (12, 0)) (by decide +kernel) (by decide +kernel)) (Nat.le_of_ble_eq_true rfl) (by first | rfl | decide | (repeat' split) <;> rfl) rfl (hN_sfr _ _ _ _) (hk_sfr _ _ _ _) (mE_sfr (R_k (o := 0) (x := (12, 0)) (by decide +kernel) (by decide +kernel)) (by decide) (ob_12_0 _ _ _)) ?_
  refine mW_ws (st2 := []) (w2 := wR b qJ5_init_d00df_2 w) rfl (R_R (o := 0) (by decide +kernel)) ?_
  refine mW_aload_n (j := 0) dJ5_init_d00df_17 rfl rfl ?_
  refine mW_iconst (v := 0) dJ5_init_d00df_18 (by decide) ?_
  refine mW_put (ty := .byte) (w2 := sfi (wR b qJ5_init_d00df_2 w) b 1 0) dJ5_init_d00df_19 p_J5_22 (R_k (o := 0) (x := (12, 0)) (by decide +kernel) (by decide +kernel)) (Nat.le_of_ble_eq_true rfl) (by first | rfl | decide | (repeat' split) <;> rfl) rfl (hN_sfi _ _ _ _) (hk_sfi _ _ _ _) (mE_sfi (R_k (o := 0) (x := (12, 0)) (by decide +kernel) (by decide +kernel)) (by decide) (ob_12_1 _ _ _)) ?_
  refine mW_ws (st2 := []) (w2 := wR b qJ5_init_d00df_3 w) rfl (R_I (o := 0) (by decide +kernel)) ?_
  refine mW_goto (tgt := 38) dJ5_init_d00df_22 (by decide) ?_
  exact mW_vret dJ5_init_d00df_38 rfl ⟨rfl, rfl⟩
theorem mk0_J4 : ∀ (w : mH) (a : Nat), hfi w a = (fun _ => 0) → hfl w a = (fun _ => 0) → hfr w a = (fun _ => none) → ∀ j, j < 4 → defaultValue (tyJ4 j) = vp_V (mOb w a 12) j := by
  intro w a h1 h2 h3 j hj
  simp only [mOb, h1, h2, h3]
  revert j
  decide
theorem u286 : (Cond.code ⟨"java/lang/AbstractStringBuilder", "<init>", "(I)V"⟩ prog_15_method_2_code 2 (none : Option ClassFile.FieldType) : Cond) ∈ mTs := mTs_in 286 (by decide +kernel) (by decide +kernel)
theorem co_J5_init_d00df : mCode mJ5_init_d00df := ⟨u286, u77, by decide⟩
theorem u284 : (Cond.methodLink "java/lang/StringBuilder" 1 ⟨"java/lang/AbstractStringBuilder", "<init>", "(I)V"⟩ : Cond) ∈ mTs := mTs_in 284 (by decide +kernel) (by decide +kernel)
theorem u285 : (Cond.instanceMethod ⟨"java/lang/AbstractStringBuilder", "<init>", "(I)V"⟩ : Cond) ∈ mTs := mTs_in 285 (by decide +kernel) (by decide +kernel)
theorem l_J4_1 : mLinkI "java/lang/StringBuilder" 1 1 mJ5_init_d00df := ⟨⟨by decide, by decide, by decide +kernel⟩, co_J5_init_d00df, u284, u285, rfl, rfl⟩
abbrev mJ4_init_da8c8 : mM := (yJ4_init_da8c8, cJ4_init_da8c8, 1, none, [])

set_option maxHeartbeats 4000000 in
set_option maxRecDepth 100000 in
theorem iJ4_init_da8c8 {G : mG} {b : Nat} {w : mH} : mC G mJ4_init_da8c8 2 1 16 [.ref b] (wR b (q0 12) w) (mEq (.inl none) (wR b qJ5_init_d00df_3 w)) := by
  refine mC_of (by decide +kernel) rfl (Nat.le_of_ble_eq_true rfl) rfl ?_
  refine mW_aload_n (j := 0) dJ4_init_da8c8_0 rfl rfl ?_
  refine mW_bipush (v := 16) dJ4_init_da8c8_1 (by decide) ?_
  refine mW_callIe (As := [.int 16]) (rest := []) (b := b) (kc2 := 0) (ks2 := 0) (v := none) (w2 := wR b qJ5_init_d00df_3 w) dJ4_init_da8c8_3 l_J4_1 rfl iJ5_init_d00df (Nat.le_of_ble_eq_true rfl) (by decide) rfl rfl ?_
  exact mW_vret dJ4_init_da8c8_6 rfl ⟨rfl, rfl⟩
theorem mk0_X10 : ∀ (w : mH) (a : Nat), hfi w a = (fun _ => 0) → hfl w a = (fun _ => 0) → hfr w a = (fun _ => none) → ∀ j, j < 12 → defaultValue (tyX10 j) = vp_V (mOb w a 10) j := by
  intro w a h1 h2 h3 j hj
  simp only [mOb, h1, h2, h3]
  revert j
  decide
theorem u110 : (Cond.methodLink "LineFollowerBench" 3 ⟨"java/lang/Object", "<init>", "()V"⟩ : Cond) ∈ mTs := mTs_in 110 (by decide +kernel) (by decide +kernel)
theorem u113 : (Cond.classLink "LineFollowerBench" 9 "LineFollowerBench$Setup" : Cond) ∈ mTs := mTs_in 113 (by decide +kernel) (by decide +kernel)
theorem mk_X10_9 : mMk "LineFollowerBench" 9 3 5 := ⟨RX3, TX3, tyX3, rfl, in_X3, tyX3_ok, u113, u114, u71, by decide, mk0_X3⟩
theorem v115 : (Cond.methodLinkNest "LineFollowerBench" 11 ⟨"LineFollowerBench$Setup", "<init>", "()V"⟩ "LineFollowerBench" : Cond) ∈ lw_tbl := List.mem_of_getElem? (i := 115) (by decide +kernel)
theorem l_X10_11 : mLinkIN "LineFollowerBench" 11 0 mX3_init "LineFollowerBench" := ⟨⟨by decide, by decide, by decide +kernel⟩, co_X3_init, v115, u116, rfl, rfl⟩
theorem p_X10_12 : mPut "LineFollowerBench" 12 10 0 (.object "LineFollowerBench$Setup") true := ⟨RX10, TX10, 12, "LineFollowerBench", tyX10, rfl, by decide, in_X10, u447, Or.inl rfl, by decide, tyX10_ok, nmX10, by decide +kernel, rfl, fun _ => rfl⟩
theorem ob_10_0 (w : mH) (a : Nat) (v : Option Nat) : mOb (sfr w a 0 v) a 10 = (mOb w a 10).set 0 (va_rf v) := by simp [mOb, hfi_sfr, hfl_sfr, hfr_sfr, up2]
theorem p_X10_16 : mPut "LineFollowerBench" 16 10 1 (.object "LineFollowerBench$Setup") true := ⟨RX10, TX10, 12, "LineFollowerBench", tyX10, rfl, by decide, in_X10, u448, Or.inl rfl, by decide, tyX10_ok, nmX10, by decide +kernel, rfl, fun _ => rfl⟩
theorem ob_10_1 (w : mH) (a : Nat) (v : Option Nat) : mOb (sfr w a 1 v) a 10 = (mOb w a 10).set 1 (va_rf v) := by simp [mOb, hfi_sfr, hfl_sfr, hfr_sfr, up2]
theorem u228 : (Cond.classLink "LineFollowerBench" 23 "LineFollowerBench$History" : Cond) ∈ mTs := mTs_in 228 (by decide +kernel) (by decide +kernel)
theorem u229 : (Cond.instantiable "LineFollowerBench$History" 3 : Cond) ∈ mTs := mTs_in 229 (by decide +kernel) (by decide +kernel)
theorem mk_X10_23 : mMk "LineFollowerBench" 23 2 3 := ⟨RX2, TX2, tyX2, rfl, in_X2, tyX2_ok, u228, u229, u75, by decide, mk0_X2⟩
theorem u232 : (Cond.code ⟨"LineFollowerBench$History", "<init>", "()V"⟩ prog_4_method_1_code 2 (none : Option ClassFile.FieldType) : Cond) ∈ mTs := mTs_in 232 (by decide +kernel) (by decide +kernel)
theorem co_X2_init : mCode mX2_init := ⟨u232, u75, by decide⟩
theorem u230 : (Cond.methodLink "LineFollowerBench" 25 ⟨"LineFollowerBench$History", "<init>", "()V"⟩ : Cond) ∈ mTs := mTs_in 230 (by decide +kernel) (by decide +kernel)
theorem u231 : (Cond.instanceMethod ⟨"LineFollowerBench$History", "<init>", "()V"⟩ : Cond) ∈ mTs := mTs_in 231 (by decide +kernel) (by decide +kernel)
theorem l_X10_25 : mLinkI "LineFollowerBench" 25 0 mX2_init := ⟨⟨by decide, by decide, by decide +kernel⟩, co_X2_init, u230, u231, rfl, rfl⟩
theorem p_X10_26 : mPut "LineFollowerBench" 26 10 3 (.object "LineFollowerBench$History") true := ⟨RX10, TX10, 12, "LineFollowerBench", tyX10, rfl, by decide, in_X10, u450, Or.inl rfl, by decide, tyX10_ok, nmX10, by decide +kernel, rfl, fun _ => rfl⟩
theorem ob_10_3 (w : mH) (a : Nat) (v : Option Nat) : mOb (sfr w a 3 v) a 10 = (mOb w a 10).set 3 (va_rf v) := by simp [mOb, hfi_sfr, hfl_sfr, hfr_sfr, up2]
theorem u248 : (Cond.classLink "LineFollowerBench" 30 "LineFollowerBench$TrackReader" : Cond) ∈ mTs := mTs_in 248 (by decide +kernel) (by decide +kernel)
theorem u249 : (Cond.instantiable "LineFollowerBench$TrackReader" 6 : Cond) ∈ mTs := mTs_in 249 (by decide +kernel) (by decide +kernel)
theorem mk_X10_30 : mMk "LineFollowerBench" 30 8 6 := ⟨RX8, TX8, tyX8, rfl, in_X8, tyX8_ok, u248, u249, u76, by decide, mk0_X8⟩
theorem u252 : (Cond.code ⟨"LineFollowerBench$TrackReader", "<init>", "()V"⟩ prog_10_method_1_code 1 (none : Option ClassFile.FieldType) : Cond) ∈ mTs := mTs_in 252 (by decide +kernel) (by decide +kernel)
theorem co_X8_init : mCode mX8_init := ⟨u252, u76, by decide⟩
theorem v250 : (Cond.methodLinkNest "LineFollowerBench" 32 ⟨"LineFollowerBench$TrackReader", "<init>", "()V"⟩ "LineFollowerBench" : Cond) ∈ lw_tbl := List.mem_of_getElem? (i := 250) (by decide +kernel)
theorem u251 : (Cond.instanceMethod ⟨"LineFollowerBench$TrackReader", "<init>", "()V"⟩ : Cond) ∈ mTs := mTs_in 251 (by decide +kernel) (by decide +kernel)
theorem l_X10_32 : mLinkIN "LineFollowerBench" 32 0 mX8_init "LineFollowerBench" := ⟨⟨by decide, by decide, by decide +kernel⟩, co_X8_init, v250, u251, rfl, rfl⟩
theorem p_X10_33 : mPut "LineFollowerBench" 33 10 4 (.object "LineFollowerBench$TrackReader") true := ⟨RX10, TX10, 12, "LineFollowerBench", tyX10, rfl, by decide, in_X10, u451, Or.inl rfl, by decide, tyX10_ok, nmX10, by decide +kernel, rfl, fun _ => rfl⟩
theorem ob_10_4 (w : mH) (a : Nat) (v : Option Nat) : mOb (sfr w a 4 v) a 10 = (mOb w a 10).set 4 (va_rf v) := by simp [mOb, hfi_sfr, hfl_sfr, hfr_sfr, up2]
theorem u279 : (Cond.classLink "LineFollowerBench" 37 "java/lang/StringBuilder" : Cond) ∈ mTs := mTs_in 279 (by decide +kernel) (by decide +kernel)
theorem u280 : (Cond.instantiable "java/lang/StringBuilder" 4 : Cond) ∈ mTs := mTs_in 280 (by decide +kernel) (by decide +kernel)
theorem mk_X10_37 : mMk "LineFollowerBench" 37 12 4 := ⟨RJ4, TJ4, tyJ4, rfl, in_J4, tyJ4_ok, u279, u280, u78, by decide, mk0_J4⟩
theorem u283 : (Cond.code ⟨"java/lang/StringBuilder", "<init>", "()V"⟩ prog_32_method_1_code 1 (none : Option ClassFile.FieldType) : Cond) ∈ mTs := mTs_in 283 (by decide +kernel) (by decide +kernel)
theorem co_J4_init_da8c8 : mCode mJ4_init_da8c8 := ⟨u283, u78, by decide⟩
theorem u281 : (Cond.methodLink "LineFollowerBench" 39 ⟨"java/lang/StringBuilder", "<init>", "()V"⟩ : Cond) ∈ mTs := mTs_in 281 (by decide +kernel) (by decide +kernel)
theorem u282 : (Cond.instanceMethod ⟨"java/lang/StringBuilder", "<init>", "()V"⟩ : Cond) ∈ mTs := mTs_in 282 (by decide +kernel) (by decide +kernel)
theorem l_X10_39 : mLinkI "LineFollowerBench" 39 0 mJ4_init_da8c8 := ⟨⟨by decide, by decide, by decide +kernel⟩, co_J4_init_da8c8, u281, u282, rfl, rfl⟩
theorem p_X10_40 : mPut "LineFollowerBench" 40 10 5 (.object "java/lang/StringBuilder") true := ⟨RX10, TX10, 12, "LineFollowerBench", tyX10, rfl, by decide, in_X10, u452, Or.inl rfl, by decide, tyX10_ok, nmX10, by decide +kernel, rfl, fun _ => rfl⟩
theorem ob_10_5 (w : mH) (a : Nat) (v : Option Nat) : mOb (sfr w a 5 v) a 10 = (mOb w a 10).set 5 (va_rf v) := by simp [mOb, hfi_sfr, hfl_sfr, hfr_sfr, up2]
theorem u312 : (Cond.classLink "LineFollowerBench" 44 "LineFollowerBench$Simulation" : Cond) ∈ mTs := mTs_in 312 (by decide +kernel) (by decide +kernel)
theorem mk_X10_44 : mMk "LineFollowerBench" 44 4 11 := ⟨RX4, TX4, tyX4, rfl, in_X4, tyX4_ok, u312, u313, u81, by decide, mk0_X4⟩
theorem v314 : (Cond.methodLinkNest "LineFollowerBench" 46 ⟨"LineFollowerBench$Simulation", "<init>", "()V"⟩ "LineFollowerBench" : Cond) ∈ lw_tbl := List.mem_of_getElem? (i := 314) (by decide +kernel)
theorem l_X10_46 : mLinkIN "LineFollowerBench" 46 0 mX4_init "LineFollowerBench" := ⟨⟨by decide, by decide, by decide +kernel⟩, co_X4_init, v314, u315, rfl, rfl⟩
theorem p_X10_47 : mPut "LineFollowerBench" 47 10 6 (.object "LineFollowerBench$Simulation") true := ⟨RX10, TX10, 12, "LineFollowerBench", tyX10, rfl, by decide, in_X10, u453, Or.inl rfl, by decide, tyX10_ok, nmX10, by decide +kernel, rfl, fun _ => rfl⟩
theorem ob_10_6 (w : mH) (a : Nat) (v : Option Nat) : mOb (sfr w a 6 v) a 10 = (mOb w a 10).set 6 (va_rf v) := by simp [mOb, hfi_sfr, hfl_sfr, hfr_sfr, up2]
theorem u358 : (Cond.classLink "LineFollowerBench" 51 "LineFollowerBench$Trace" : Cond) ∈ mTs := mTs_in 358 (by decide +kernel) (by decide +kernel)
theorem mk_X10_51 : mMk "LineFollowerBench" 51 6 7 := ⟨RX6, TX6, tyX6, rfl, in_X6, tyX6_ok, u358, u359, u82, by decide, mk0_X6⟩
theorem v360 : (Cond.methodLinkNest "LineFollowerBench" 53 ⟨"LineFollowerBench$Trace", "<init>", "()V"⟩ "LineFollowerBench" : Cond) ∈ lw_tbl := List.mem_of_getElem? (i := 360) (by decide +kernel)
theorem l_X10_53 : mLinkIN "LineFollowerBench" 53 0 mX6_init "LineFollowerBench" := ⟨⟨by decide, by decide, by decide +kernel⟩, co_X6_init, v360, u361, rfl, rfl⟩
theorem p_X10_54 : mPut "LineFollowerBench" 54 10 7 (.object "LineFollowerBench$Trace") true := ⟨RX10, TX10, 12, "LineFollowerBench", tyX10, rfl, by decide, in_X10, u454, Or.inl rfl, by decide, tyX10_ok, nmX10, by decide +kernel, rfl, fun _ => rfl⟩
theorem ob_10_7 (w : mH) (a : Nat) (v : Option Nat) : mOb (sfr w a 7 v) a 10 = (mOb w a 10).set 7 (va_rf v) := by simp [mOb, hfi_sfr, hfl_sfr, hfr_sfr, up2]
theorem p_X10_58 : mPut "LineFollowerBench" 58 10 8 (.object "LineFollowerBench$Trace") true := ⟨RX10, TX10, 12, "LineFollowerBench", tyX10, rfl, by decide, in_X10, u455, Or.inl rfl, by decide, tyX10_ok, nmX10, by decide +kernel, rfl, fun _ => rfl⟩
theorem ob_10_8 (w : mH) (a : Nat) (v : Option Nat) : mOb (sfr w a 8 v) a 10 = (mOb w a 10).set 8 (va_rf v) := by simp [mOb, hfi_sfr, hfl_sfr, hfr_sfr, up2]
theorem u396 : (Cond.classLink "LineFollowerBench" 61 "LineFollowerBench$Tuner" : Cond) ∈ mTs := mTs_in 396 (by decide +kernel) (by decide +kernel)
theorem u397 : (Cond.instantiable "LineFollowerBench$Tuner" 4 : Cond) ∈ mTs := mTs_in 397 (by decide +kernel) (by decide +kernel)
theorem mk_X10_61 : mMk "LineFollowerBench" 61 9 4 := ⟨RX9, TX9, tyX9, rfl, in_X9, tyX9_ok, u396, u397, u83, by decide, mk0_X9⟩
theorem u400 : (Cond.code ⟨"LineFollowerBench$Tuner", "<init>", "()V"⟩ prog_11_method_1_code 1 (none : Option ClassFile.FieldType) : Cond) ∈ mTs := mTs_in 400 (by decide +kernel) (by decide +kernel)
theorem co_X9_init : mCode mX9_init := ⟨u400, u83, by decide⟩
theorem v398 : (Cond.methodLinkNest "LineFollowerBench" 63 ⟨"LineFollowerBench$Tuner", "<init>", "()V"⟩ "LineFollowerBench" : Cond) ∈ lw_tbl := List.mem_of_getElem? (i := 398) (by decide +kernel)
theorem u399 : (Cond.instanceMethod ⟨"LineFollowerBench$Tuner", "<init>", "()V"⟩ : Cond) ∈ mTs := mTs_in 399 (by decide +kernel) (by decide +kernel)
theorem l_X10_63 : mLinkIN "LineFollowerBench" 63 0 mX9_init "LineFollowerBench" := ⟨⟨by decide, by decide, by decide +kernel⟩, co_X9_init, v398, u399, rfl, rfl⟩
theorem p_X10_64 : mPut "LineFollowerBench" 64 10 9 (.object "LineFollowerBench$Tuner") true := ⟨RX10, TX10, 12, "LineFollowerBench", tyX10, rfl, by decide, in_X10, u456, Or.inl rfl, by decide, tyX10_ok, nmX10, by decide +kernel, rfl, fun _ => rfl⟩
theorem ob_10_9 (w : mH) (a : Nat) (v : Option Nat) : mOb (sfr w a 9 v) a 10 = (mOb w a 10).set 9 (va_rf v) := by simp [mOb, hfi_sfr, hfl_sfr, hfr_sfr, up2]
theorem u420 : (Cond.classLink "LineFollowerBench" 68 "LineFollowerBench$Found" : Cond) ∈ mTs := mTs_in 420 (by decide +kernel) (by decide +kernel)
theorem u421 : (Cond.instantiable "LineFollowerBench$Found" 4 : Cond) ∈ mTs := mTs_in 421 (by decide +kernel) (by decide +kernel)
theorem u84 : (Cond.initialized "LineFollowerBench$Found" : Cond) ∈ mTs := mTs_in 84 (by decide +kernel) (by decide +kernel)
theorem mk_X10_68 : mMk "LineFollowerBench" 68 0 4 := ⟨RX0, TX0, tyX0, rfl, in_X0, tyX0_ok, u420, u421, u84, by decide, mk0_X0⟩
theorem u424 : (Cond.code ⟨"LineFollowerBench$Found", "<init>", "()V"⟩ prog_2_method_1_code 1 (none : Option ClassFile.FieldType) : Cond) ∈ mTs := mTs_in 424 (by decide +kernel) (by decide +kernel)
theorem co_X0_init : mCode mX0_init := ⟨u424, u84, by decide⟩
theorem v422 : (Cond.methodLinkNest "LineFollowerBench" 70 ⟨"LineFollowerBench$Found", "<init>", "()V"⟩ "LineFollowerBench" : Cond) ∈ lw_tbl := List.mem_of_getElem? (i := 422) (by decide +kernel)
theorem u423 : (Cond.instanceMethod ⟨"LineFollowerBench$Found", "<init>", "()V"⟩ : Cond) ∈ mTs := mTs_in 423 (by decide +kernel) (by decide +kernel)
theorem l_X10_70 : mLinkIN "LineFollowerBench" 70 0 mX0_init "LineFollowerBench" := ⟨⟨by decide, by decide, by decide +kernel⟩, co_X0_init, v422, u423, rfl, rfl⟩
theorem p_X10_71 : mPut "LineFollowerBench" 71 10 10 (.object "LineFollowerBench$Found") true := ⟨RX10, TX10, 12, "LineFollowerBench", tyX10, rfl, by decide, in_X10, u457, Or.inl rfl, by decide, tyX10_ok, nmX10, by decide +kernel, rfl, fun _ => rfl⟩
theorem ob_10_10 (w : mH) (a : Nat) (v : Option Nat) : mOb (sfr w a 10 v) a 10 = (mOb w a 10).set 10 (va_rf v) := by simp [mOb, hfi_sfr, hfl_sfr, hfr_sfr, up2]
theorem p_X10_75 : mPut "LineFollowerBench" 75 10 11 (.object "LineFollowerBench$Found") true := ⟨RX10, TX10, 12, "LineFollowerBench", tyX10, rfl, by decide, in_X10, u458, Or.inl rfl, by decide, tyX10_ok, nmX10, by decide +kernel, rfl, fun _ => rfl⟩
theorem ob_10_11 (w : mH) (a : Nat) (v : Option Nat) : mOb (sfr w a 11 v) a 10 = (mOb w a 10).set 11 (va_rf v) := by simp [mOb, hfi_sfr, hfl_sfr, hfr_sfr, up2]
abbrev mX10_init : mM := (yX10_init, cX10_init, 1, none, [])
def qX10_init_1 : mQ := qVp (q0 10) qX3_init_15
def qX10_init_2 : mQ := qVr qX10_init_1 0 0 1
def qX10_init_3 : mQ := qVp qX10_init_2 qX3_init_15
def qX10_init_4 : mQ := qVr qX10_init_3 0 1 18
def qX10_init_5 : mQ := qVi qX10_init_4 0 2 0
def qX10_init_6 : mQ := qVp qX10_init_5 qX2_init_16
def qX10_init_7 : mQ := qVr qX10_init_6 0 3 35
def qX10_init_8 : mQ := qVp qX10_init_7 qX8_init_8
def qX10_init_9 : mQ := qVr qX10_init_8 0 4 139
def qX10_init_10 : mQ := qVp qX10_init_9 qJ5_init_d00df_3
def qX10_init_11 : mQ := qVr qX10_init_10 0 5 148
def qX10_init_12 : mQ := qVp qX10_init_11 qX4_init_16
def qX10_init_13 : mQ := qVr qX10_init_12 0 6 150
def qX10_init_14 : mQ := qVp qX10_init_13 qX6_init_13
def qX10_init_15 : mQ := qVr qX10_init_14 0 7 158
def qX10_init_16 : mQ := qVp qX10_init_15 qX6_init_13
def qX10_init_17 : mQ := qVr qX10_init_16 0 8 165
def qX10_init_18 : mQ := qVp qX10_init_17 qX9_init_8
def qX10_init_19 : mQ := qVr qX10_init_18 0 9 172
def qX10_init_20 : mQ := qVp qX10_init_19 qX0_init_4
def qX10_init_21 : mQ := qVr qX10_init_20 0 10 190
def qX10_init_22 : mQ := qVp qX10_init_21 qX0_init_4
def qX10_init_23 : mQ := qVr qX10_init_22 0 11 192
set_option maxHeartbeats 4000000 in
set_option maxRecDepth 100000 in
theorem iX10_init {G : mG} {b : Nat} {w : mH} : mC G mX10_init 4 193 6020 [.ref b] (wR b (q0 10) w) (mEq (.inl none) (wR b qX10_init_23 w)) := by
  refine mC_of (by decide +kernel) rfl (Nat.le_of_ble_eq_true rfl) rfl ?_
  refine mW_aload_n (j := 0) dX10_init_0 rfl rfl ?_
  refine mW_objInit dX10_init_1 u110 u111 u112 (Nat.le_of_ble_eq_true rfl) (by decide) ?_
  refine mW_aload_n (j := 0) dX10_init_4 rfl rfl ?_
  refine mW_new (ci := 3) (N := 5) (kc2 := 192) (ks2 := 6015) dX10_init_5 mk_X10_9 rfl rfl ?_
  refine mW_ws (st2 := [.ref (b + 1), .ref b]) (w2 := wR (b + 1) (q0 3) (wR b (q0 10) w)) rfl R_0 ?_
  refine mW_dup dX10_init_8 rfl ?_
  refine mW_callINe (As := []) (rest := [.ref (b + 1), .ref b]) (b := b + 1) (kc2 := 176) (ks2 := 5926) (v := none) (w2 := wR (b + 1) qX3_init_15 (wR b (q0 10) w)) dX10_init_9 l_X10_11 rfl iX3_init (Nat.le_of_ble_eq_true rfl) (by decide) rfl rfl ?_
  refine mW_ws (st2 := [.ref (b + 1), .ref b]) (w2 := wR b qX10_init_1 w) rfl (R_P (b := b) (Q := (q0 10)) (Q' := qX3_init_15) (w := w)) ?_
  refine mW_putF (ty := .object "LineFollowerBench$Setup") (w2 := sfr (wR b qX10_init_1 w) b 0 (some (b + 1))) dX10_init_12 p_X10_12 rfl (R_k (o := 0) (x := (10, 0)) (by decide +kernel) (by decide +kernel)) (Nat.le_of_ble_eq_true rfl) (by first | rfl | decide | (repeat' split) <;> rfl) rfl (hN_sfr _ _ _ _) (hk_sfr _ _ _ _) (mE_sfr (R_k (o := 0) (x := (10, 0)) (by decide +kernel) (by decide +kernel)) (by decide) (ob_10_0 _ _ _)) ?_
  refine mW_ws (st2 := []) (w2 := wR b qX10_init_2 w) rfl (R_R (o := 0) (by decide +kernel)) ?_
  refine mW_aload_n (j := 0) dX10_init_15 rfl rfl ?_
  refine mW_new (ci := 3) (N := 5) (kc2 := 175) (ks2 := 5921) dX10_init_16 mk_X10_9 rfl rfl ?_
  refine mW_ws (st2 := [.ref (b + 18), .ref b]) (w2 := wR (b + 18) (q0 3) (wR b qX10_init_2 w)) rfl R_0 ?_
  refine mW_dup dX10_init_19 rfl ?_
  refine mW_callINe (As := []) (rest := [.ref (b + 18), .ref b]) (b := b + 18) (kc2 := 159) (ks2 := 5832) (v := none) (w2 := wR (b + 18) qX3_init_15 (wR b qX10_init_2 w)) dX10_init_20 l_X10_11 rfl iX3_init (Nat.le_of_ble_eq_true rfl) (by decide) rfl rfl ?_
  refine mW_ws (st2 := [.ref (b + 18), .ref b]) (w2 := wR b qX10_init_3 w) rfl (R_P (b := b) (Q := qX10_init_2) (Q' := qX3_init_15) (w := w)) ?_
  refine mW_putF (ty := .object "LineFollowerBench$Setup") (w2 := sfr (wR b qX10_init_3 w) b 1 (some (b + 18))) dX10_init_23 p_X10_16 rfl (R_k (o := 0) (x := (10, 0)) (by decide +kernel) (by decide +kernel)) (Nat.le_of_ble_eq_true rfl) (by first | rfl | decide | (repeat' split) <;> rfl) rfl (hN_sfr _ _ _ _) (hk_sfr _ _ _ _) (mE_sfr (R_k (o := 0) (x := (10, 0)) (by decide +kernel) (by decide +kernel)) (by decide) (ob_10_1 _ _ _)) ?_
  refine mW_ws (st2 := []) (w2 := wR b qX10_init_4 w) rfl (R_R (o := 0) (by decide +kernel)) ?_
  refine mW_aload_n (j := 0) dX10_init_26 rfl rfl ?_
  refine mW_iconst (v := 0) dX10_init_27 (by decide) ?_
  refine mW_put (ty := .boolean) (w2 := sfi (wR b qX10_init_4 w) b 2 0) dX10_init_28 p_X10_19 (R_k (o := 0) (x := (10, 0)) (by decide +kernel) (by decide +kernel)) (Nat.le_of_ble_eq_true rfl) (by first | rfl | decide | (repeat' split) <;> rfl) rfl (hN_sfi _ _ _ _) (hk_sfi _ _ _ _) (mE_sfi (R_k (o := 0) (x := (10, 0)) (by decide +kernel) (by decide +kernel)) (by decide) (ob_10_2 _ _ _)) ?_
  refine mW_ws (st2 := []) (w2 := wR b qX10_init_5 w) rfl (R_I (o := 0) (by decide +kernel)) ?_
  refine mW_aload_n (j := 0) dX10_init_31 rfl rfl ?_
  refine mW_new (ci := 2) (N := 3) (kc2 := 158) (ks2 := 5829) dX10_init_32 mk_X10_23 rfl rfl ?_
  refine mW_ws (st2 := [.ref (b + 35), .ref b]) (w2 := wR (b + 35) (q0 2) (wR b qX10_init_5 w)) rfl R_0 ?_
  refine mW_dup dX10_init_35 rfl ?_
  refine mW_callIe (As := []) (rest := [.ref (b + 35), .ref b]) (b := b + 35) (kc2 := 55) (ks2 := 5259) (v := none) (w2 := wR (b + 35) qX2_init_16 (wR b qX10_init_5 w)) dX10_init_36 l_X10_25 rfl iX2_init (Nat.le_of_ble_eq_true rfl) (by decide) rfl rfl ?_
  refine mW_ws (st2 := [.ref (b + 35), .ref b]) (w2 := wR b qX10_init_6 w) rfl (R_P (b := b) (Q := qX10_init_5) (Q' := qX2_init_16) (w := w)) ?_
  refine mW_putF (ty := .object "LineFollowerBench$History") (w2 := sfr (wR b qX10_init_6 w) b 3 (some (b + 35))) dX10_init_39 p_X10_26 rfl (R_k (o := 0) (x := (10, 0)) (by decide +kernel) (by decide +kernel)) (Nat.le_of_ble_eq_true rfl) (by first | rfl | decide | (repeat' split) <;> rfl) rfl (hN_sfr _ _ _ _) (hk_sfr _ _ _ _) (mE_sfr (R_k (o := 0) (x := (10, 0)) (by decide +kernel) (by decide +kernel)) (by decide) (ob_10_3 _ _ _)) ?_
  refine mW_ws (st2 := []) (w2 := wR b qX10_init_7 w) rfl (R_R (o := 0) (by decide +kernel)) ?_
  refine mW_aload_n (j := 0) dX10_init_42 rfl rfl ?_
  refine mW_new (ci := 8) (N := 6) (kc2 := 54) (ks2 := 5253) dX10_init_43 mk_X10_30 rfl rfl ?_
  refine mW_ws (st2 := [.ref (b + 139), .ref b]) (w2 := wR (b + 139) (q0 8) (wR b qX10_init_7 w)) rfl R_0 ?_
  refine mW_dup dX10_init_46 rfl ?_
  refine mW_callINe (As := []) (rest := [.ref (b + 139), .ref b]) (b := b + 139) (kc2 := 46) (ks2 := 5159) (v := none) (w2 := wR (b + 139) qX8_init_8 (wR b qX10_init_7 w)) dX10_init_47 l_X10_32 rfl iX8_init (Nat.le_of_ble_eq_true rfl) (by decide) rfl rfl ?_
  refine mW_ws (st2 := [.ref (b + 139), .ref b]) (w2 := wR b qX10_init_8 w) rfl (R_P (b := b) (Q := qX10_init_7) (Q' := qX8_init_8) (w := w)) ?_
  refine mW_putF (ty := .object "LineFollowerBench$TrackReader") (w2 := sfr (wR b qX10_init_8 w) b 4 (some (b + 139))) dX10_init_50 p_X10_33 rfl (R_k (o := 0) (x := (10, 0)) (by decide +kernel) (by decide +kernel)) (Nat.le_of_ble_eq_true rfl) (by first | rfl | decide | (repeat' split) <;> rfl) rfl (hN_sfr _ _ _ _) (hk_sfr _ _ _ _) (mE_sfr (R_k (o := 0) (x := (10, 0)) (by decide +kernel) (by decide +kernel)) (by decide) (ob_10_4 _ _ _)) ?_
  refine mW_ws (st2 := []) (w2 := wR b qX10_init_9 w) rfl (R_R (o := 0) (by decide +kernel)) ?_
  refine mW_aload_n (j := 0) dX10_init_53 rfl rfl ?_
  refine mW_new (ci := 12) (N := 4) (kc2 := 45) (ks2 := 5155) dX10_init_54 mk_X10_37 rfl rfl ?_
  refine mW_ws (st2 := [.ref (b + 148), .ref b]) (w2 := wR (b + 148) (q0 12) (wR b qX10_init_9 w)) rfl R_0 ?_
  refine mW_dup dX10_init_57 rfl ?_
  refine mW_callIe (As := []) (rest := [.ref (b + 148), .ref b]) (b := b + 148) (kc2 := 44) (ks2 := 5139) (v := none) (w2 := wR (b + 148) qJ5_init_d00df_3 (wR b qX10_init_9 w)) dX10_init_58 l_X10_39 rfl iJ4_init_da8c8 (Nat.le_of_ble_eq_true rfl) (by decide) rfl rfl ?_
  refine mW_ws (st2 := [.ref (b + 148), .ref b]) (w2 := wR b qX10_init_10 w) rfl (R_P (b := b) (Q := qX10_init_9) (Q' := qJ5_init_d00df_3) (w := w)) ?_
  refine mW_putF (ty := .object "java/lang/StringBuilder") (w2 := sfr (wR b qX10_init_10 w) b 5 (some (b + 148))) dX10_init_61 p_X10_40 rfl (R_k (o := 0) (x := (10, 0)) (by decide +kernel) (by decide +kernel)) (Nat.le_of_ble_eq_true rfl) (by first | rfl | decide | (repeat' split) <;> rfl) rfl (hN_sfr _ _ _ _) (hk_sfr _ _ _ _) (mE_sfr (R_k (o := 0) (x := (10, 0)) (by decide +kernel) (by decide +kernel)) (by decide) (ob_10_5 _ _ _)) ?_
  refine mW_ws (st2 := []) (w2 := wR b qX10_init_11 w) rfl (R_R (o := 0) (by decide +kernel)) ?_
  refine mW_aload_n (j := 0) dX10_init_64 rfl rfl ?_
  refine mW_new (ci := 4) (N := 11) (kc2 := 43) (ks2 := 5128) dX10_init_65 mk_X10_44 rfl rfl ?_
  refine mW_ws (st2 := [.ref (b + 150), .ref b]) (w2 := wR (b + 150) (q0 4) (wR b qX10_init_11 w)) rfl R_0 ?_
  refine mW_dup dX10_init_68 rfl ?_
  refine mW_callINe (As := []) (rest := [.ref (b + 150), .ref b]) (b := b + 150) (kc2 := 36) (ks2 := 4500) (v := none) (w2 := wR (b + 150) qX4_init_16 (wR b qX10_init_11 w)) dX10_init_69 l_X10_46 rfl iX4_init (Nat.le_of_ble_eq_true rfl) (by decide) rfl rfl ?_
  refine mW_ws (st2 := [.ref (b + 150), .ref b]) (w2 := wR b qX10_init_12 w) rfl (R_P (b := b) (Q := qX10_init_11) (Q' := qX4_init_16) (w := w)) ?_
  refine mW_putF (ty := .object "LineFollowerBench$Simulation") (w2 := sfr (wR b qX10_init_12 w) b 6 (some (b + 150))) dX10_init_72 p_X10_47 rfl (R_k (o := 0) (x := (10, 0)) (by decide +kernel) (by decide +kernel)) (Nat.le_of_ble_eq_true rfl) (by first | rfl | decide | (repeat' split) <;> rfl) rfl (hN_sfr _ _ _ _) (hk_sfr _ _ _ _) (mE_sfr (R_k (o := 0) (x := (10, 0)) (by decide +kernel) (by decide +kernel)) (by decide) (ob_10_6 _ _ _)) ?_
  refine mW_ws (st2 := []) (w2 := wR b qX10_init_13 w) rfl (R_R (o := 0) (by decide +kernel)) ?_
  refine mW_aload_n (j := 0) dX10_init_75 rfl rfl ?_
  refine mW_new (ci := 6) (N := 7) (kc2 := 35) (ks2 := 4493) dX10_init_76 mk_X10_51 rfl rfl ?_
  refine mW_ws (st2 := [.ref (b + 158), .ref b]) (w2 := wR (b + 158) (q0 6) (wR b qX10_init_13 w)) rfl R_0 ?_
  refine mW_dup dX10_init_79 rfl ?_
  refine mW_callINe (As := []) (rest := [.ref (b + 158), .ref b]) (b := b + 158) (kc2 := 29) (ks2 := 3292) (v := none) (w2 := wR (b + 158) qX6_init_13 (wR b qX10_init_13 w)) dX10_init_80 l_X10_53 rfl iX6_init (Nat.le_of_ble_eq_true rfl) (by decide) rfl rfl ?_
  refine mW_ws (st2 := [.ref (b + 158), .ref b]) (w2 := wR b qX10_init_14 w) rfl (R_P (b := b) (Q := qX10_init_13) (Q' := qX6_init_13) (w := w)) ?_
  refine mW_putF (ty := .object "LineFollowerBench$Trace") (w2 := sfr (wR b qX10_init_14 w) b 7 (some (b + 158))) dX10_init_83 p_X10_54 rfl (R_k (o := 0) (x := (10, 0)) (by decide +kernel) (by decide +kernel)) (Nat.le_of_ble_eq_true rfl) (by first | rfl | decide | (repeat' split) <;> rfl) rfl (hN_sfr _ _ _ _) (hk_sfr _ _ _ _) (mE_sfr (R_k (o := 0) (x := (10, 0)) (by decide +kernel) (by decide +kernel)) (by decide) (ob_10_7 _ _ _)) ?_
  refine mW_ws (st2 := []) (w2 := wR b qX10_init_15 w) rfl (R_R (o := 0) (by decide +kernel)) ?_
  refine mW_aload_n (j := 0) dX10_init_86 rfl rfl ?_
  refine mW_new (ci := 6) (N := 7) (kc2 := 28) (ks2 := 3285) dX10_init_87 mk_X10_51 rfl rfl ?_
  refine mW_ws (st2 := [.ref (b + 165), .ref b]) (w2 := wR (b + 165) (q0 6) (wR b qX10_init_15 w)) rfl R_0 ?_
  refine mW_dup dX10_init_90 rfl ?_
  refine mW_callINe (As := []) (rest := [.ref (b + 165), .ref b]) (b := b + 165) (kc2 := 22) (ks2 := 2084) (v := none) (w2 := wR (b + 165) qX6_init_13 (wR b qX10_init_15 w)) dX10_init_91 l_X10_53 rfl iX6_init (Nat.le_of_ble_eq_true rfl) (by decide) rfl rfl ?_
  refine mW_ws (st2 := [.ref (b + 165), .ref b]) (w2 := wR b qX10_init_16 w) rfl (R_P (b := b) (Q := qX10_init_15) (Q' := qX6_init_13) (w := w)) ?_
  refine mW_putF (ty := .object "LineFollowerBench$Trace") (w2 := sfr (wR b qX10_init_16 w) b 8 (some (b + 165))) dX10_init_94 p_X10_58 rfl (R_k (o := 0) (x := (10, 0)) (by decide +kernel) (by decide +kernel)) (Nat.le_of_ble_eq_true rfl) (by first | rfl | decide | (repeat' split) <;> rfl) rfl (hN_sfr _ _ _ _) (hk_sfr _ _ _ _) (mE_sfr (R_k (o := 0) (x := (10, 0)) (by decide +kernel) (by decide +kernel)) (by decide) (ob_10_8 _ _ _)) ?_
  refine mW_ws (st2 := []) (w2 := wR b qX10_init_17 w) rfl (R_R (o := 0) (by decide +kernel)) ?_
  refine mW_aload_n (j := 0) dX10_init_97 rfl rfl ?_
  refine mW_new (ci := 9) (N := 4) (kc2 := 21) (ks2 := 2080) dX10_init_98 mk_X10_61 rfl rfl ?_
  refine mW_ws (st2 := [.ref (b + 172), .ref b]) (w2 := wR (b + 172) (q0 9) (wR b qX10_init_17 w)) rfl R_0 ?_
  refine mW_dup dX10_init_101 rfl ?_
  refine mW_callINe (As := []) (rest := [.ref (b + 172), .ref b]) (b := b + 172) (kc2 := 4) (ks2 := 14) (v := none) (w2 := wR (b + 172) qX9_init_8 (wR b qX10_init_17 w)) dX10_init_102 l_X10_63 rfl iX9_init (Nat.le_of_ble_eq_true rfl) (by decide) rfl rfl ?_
  refine mW_ws (st2 := [.ref (b + 172), .ref b]) (w2 := wR b qX10_init_18 w) rfl (R_P (b := b) (Q := qX10_init_17) (Q' := qX9_init_8) (w := w)) ?_
  refine mW_putF (ty := .object "LineFollowerBench$Tuner") (w2 := sfr (wR b qX10_init_18 w) b 9 (some (b + 172))) dX10_init_105 p_X10_64 rfl (R_k (o := 0) (x := (10, 0)) (by decide +kernel) (by decide +kernel)) (Nat.le_of_ble_eq_true rfl) (by first | rfl | decide | (repeat' split) <;> rfl) rfl (hN_sfr _ _ _ _) (hk_sfr _ _ _ _) (mE_sfr (R_k (o := 0) (x := (10, 0)) (by decide +kernel) (by decide +kernel)) (by decide) (ob_10_9 _ _ _)) ?_
  refine mW_ws (st2 := []) (w2 := wR b qX10_init_19 w) rfl (R_R (o := 0) (by decide +kernel)) ?_
  refine mW_aload_n (j := 0) dX10_init_108 rfl rfl ?_
  refine mW_new (ci := 0) (N := 4) (kc2 := 3) (ks2 := 10) dX10_init_109 mk_X10_68 rfl rfl ?_
  refine mW_ws (st2 := [.ref (b + 190), .ref b]) (w2 := wR (b + 190) (q0 0) (wR b qX10_init_19 w)) rfl R_0 ?_
  refine mW_dup dX10_init_112 rfl ?_
  refine mW_callINe (As := []) (rest := [.ref (b + 190), .ref b]) (b := b + 190) (kc2 := 2) (ks2 := 7) (v := none) (w2 := wR (b + 190) qX0_init_4 (wR b qX10_init_19 w)) dX10_init_113 l_X10_70 rfl iX0_init (Nat.le_of_ble_eq_true rfl) (by decide) rfl rfl ?_
  refine mW_ws (st2 := [.ref (b + 190), .ref b]) (w2 := wR b qX10_init_20 w) rfl (R_P (b := b) (Q := qX10_init_19) (Q' := qX0_init_4) (w := w)) ?_
  refine mW_putF (ty := .object "LineFollowerBench$Found") (w2 := sfr (wR b qX10_init_20 w) b 10 (some (b + 190))) dX10_init_116 p_X10_71 rfl (R_k (o := 0) (x := (10, 0)) (by decide +kernel) (by decide +kernel)) (Nat.le_of_ble_eq_true rfl) (by first | rfl | decide | (repeat' split) <;> rfl) rfl (hN_sfr _ _ _ _) (hk_sfr _ _ _ _) (mE_sfr (R_k (o := 0) (x := (10, 0)) (by decide +kernel) (by decide +kernel)) (by decide) (ob_10_10 _ _ _)) ?_
  refine mW_ws (st2 := []) (w2 := wR b qX10_init_21 w) rfl (R_R (o := 0) (by decide +kernel)) ?_
  refine mW_aload_n (j := 0) dX10_init_119 rfl rfl ?_
  refine mW_new (ci := 0) (N := 4) (kc2 := 1) (ks2 := 3) dX10_init_120 mk_X10_68 rfl rfl ?_
  refine mW_ws (st2 := [.ref (b + 192), .ref b]) (w2 := wR (b + 192) (q0 0) (wR b qX10_init_21 w)) rfl R_0 ?_
  refine mW_dup dX10_init_123 rfl ?_
  refine mW_callINe (As := []) (rest := [.ref (b + 192), .ref b]) (b := b + 192) (kc2 := 0) (ks2 := 0) (v := none) (w2 := wR (b + 192) qX0_init_4 (wR b qX10_init_21 w)) dX10_init_124 l_X10_70 rfl iX0_init (Nat.le_of_ble_eq_true rfl) (by decide) rfl rfl ?_
  refine mW_ws (st2 := [.ref (b + 192), .ref b]) (w2 := wR b qX10_init_22 w) rfl (R_P (b := b) (Q := qX10_init_21) (Q' := qX0_init_4) (w := w)) ?_
  refine mW_putF (ty := .object "LineFollowerBench$Found") (w2 := sfr (wR b qX10_init_22 w) b 11 (some (b + 192))) dX10_init_127 p_X10_75 rfl (R_k (o := 0) (x := (10, 0)) (by decide +kernel) (by decide +kernel)) (Nat.le_of_ble_eq_true rfl) (by first | rfl | decide | (repeat' split) <;> rfl) rfl (hN_sfr _ _ _ _) (hk_sfr _ _ _ _) (mE_sfr (R_k (o := 0) (x := (10, 0)) (by decide +kernel) (by decide +kernel)) (by decide) (ob_10_11 _ _ _)) ?_
  refine mW_ws (st2 := []) (w2 := wR b qX10_init_23 w) rfl (R_R (o := 0) (by decide +kernel)) ?_
  exact mW_vret dX10_init_130 rfl ⟨rfl, rfl⟩
theorem mk0_X11 : ∀ (w : mH) (a : Nat), hfi w a = (fun _ => 0) → hfl w a = (fun _ => 0) → hfr w a = (fun _ => none) → ∀ j, j < 36 → defaultValue (tyX11 j) = vp_V (mOb w a 11) j := by
  intro w a h1 h2 h3 j hj
  simp only [mOb, h1, h2, h3]
  revert j
  decide
theorem u1558 : (Cond.methodLink "LineFollowerBenchModel" 7 ⟨"java/lang/Object", "<init>", "()V"⟩ : Cond) ∈ mTs := mTs_in 1558 (by decide +kernel) (by decide +kernel)
theorem p_X11_13 : mPut "LineFollowerBenchModel" 13 11 1 (.array .int) true := ⟨RX11, TX11, 36, "LineFollowerBenchModel", tyX11, rfl, by decide, in_X11, u1561, Or.inl rfl, by decide, tyX11_ok, nmX11, by decide +kernel, rfl, fun _ => rfl⟩
theorem ob_11_1 (w : mH) (a : Nat) (v : Option Nat) : mOb (sfr w a 1 v) a 11 = (mOb w a 11).set 1 (va_rf v) := by simp [mOb, hfi_sfr, hfl_sfr, hfr_sfr, up2]
theorem p_X11_17 : mPut "LineFollowerBenchModel" 17 11 2 (.array .int) true := ⟨RX11, TX11, 36, "LineFollowerBenchModel", tyX11, rfl, by decide, in_X11, u1562, Or.inl rfl, by decide, tyX11_ok, nmX11, by decide +kernel, rfl, fun _ => rfl⟩
theorem ob_11_2 (w : mH) (a : Nat) (v : Option Nat) : mOb (sfr w a 2 v) a 11 = (mOb w a 11).set 2 (va_rf v) := by simp [mOb, hfi_sfr, hfl_sfr, hfr_sfr, up2]
theorem u1559 : (Cond.constant "LineFollowerBenchModel" 20 100000 : Cond) ∈ mTs := mTs_in 1559 (by decide +kernel) (by decide +kernel)
theorem p_X11_21 : mPut "LineFollowerBenchModel" 21 11 3 (.array .int) true := ⟨RX11, TX11, 36, "LineFollowerBenchModel", tyX11, rfl, by decide, in_X11, u1563, Or.inl rfl, by decide, tyX11_ok, nmX11, by decide +kernel, rfl, fun _ => rfl⟩
theorem ob_11_3 (w : mH) (a : Nat) (v : Option Nat) : mOb (sfr w a 3 v) a 11 = (mOb w a 11).set 3 (va_rf v) := by simp [mOb, hfi_sfr, hfl_sfr, hfr_sfr, up2]
theorem u1564 : (Cond.fieldLink "LineFollowerBenchModel" 24 "LineFollowerBenchModel" "firsts" "[I" : Cond) ∈ mTs := mTs_in 1564 (by decide +kernel) (by decide +kernel)
theorem p_X11_24 : mPut "LineFollowerBenchModel" 24 11 4 (.array .int) true := ⟨RX11, TX11, 36, "LineFollowerBenchModel", tyX11, rfl, by decide, in_X11, u1564, Or.inl rfl, by decide, tyX11_ok, nmX11, by decide +kernel, rfl, fun _ => rfl⟩
theorem ob_11_4 (w : mH) (a : Nat) (v : Option Nat) : mOb (sfr w a 4 v) a 11 = (mOb w a 11).set 4 (va_rf v) := by simp [mOb, hfi_sfr, hfl_sfr, hfr_sfr, up2]
theorem p_X11_27 : mPut "LineFollowerBenchModel" 27 11 7 (.array .int) true := ⟨RX11, TX11, 36, "LineFollowerBenchModel", tyX11, rfl, by decide, in_X11, u1567, Or.inl rfl, by decide, tyX11_ok, nmX11, by decide +kernel, rfl, fun _ => rfl⟩
theorem ob_11_7 (w : mH) (a : Nat) (v : Option Nat) : mOb (sfr w a 7 v) a 11 = (mOb w a 11).set 7 (va_rf v) := by simp [mOb, hfi_sfr, hfl_sfr, hfr_sfr, up2]
theorem p_X11_33 : mPut "LineFollowerBenchModel" 33 11 11 (.array .int) true := ⟨RX11, TX11, 36, "LineFollowerBenchModel", tyX11, rfl, by decide, in_X11, u1571, Or.inl rfl, by decide, tyX11_ok, nmX11, by decide +kernel, rfl, fun _ => rfl⟩
theorem ob_11_11 (w : mH) (a : Nat) (v : Option Nat) : mOb (sfr w a 11 v) a 11 = (mOb w a 11).set 11 (va_rf v) := by simp [mOb, hfi_sfr, hfl_sfr, hfr_sfr, up2]
theorem p_X11_36 : mPut "LineFollowerBenchModel" 36 11 13 (.array .int) true := ⟨RX11, TX11, 36, "LineFollowerBenchModel", tyX11, rfl, by decide, in_X11, u1573, Or.inl rfl, by decide, tyX11_ok, nmX11, by decide +kernel, rfl, fun _ => rfl⟩
theorem ob_11_13 (w : mH) (a : Nat) (v : Option Nat) : mOb (sfr w a 13 v) a 11 = (mOb w a 11).set 13 (va_rf v) := by simp [mOb, hfi_sfr, hfl_sfr, hfr_sfr, up2]
theorem p_X11_39 : mPut "LineFollowerBenchModel" 39 11 15 (.array .int) true := ⟨RX11, TX11, 36, "LineFollowerBenchModel", tyX11, rfl, by decide, in_X11, u1575, Or.inl rfl, by decide, tyX11_ok, nmX11, by decide +kernel, rfl, fun _ => rfl⟩
theorem ob_11_15 (w : mH) (a : Nat) (v : Option Nat) : mOb (sfr w a 15 v) a 11 = (mOb w a 11).set 15 (va_rf v) := by simp [mOb, hfi_sfr, hfl_sfr, hfr_sfr, up2]
theorem p_X11_42 : mPut "LineFollowerBenchModel" 42 11 16 (.array .int) true := ⟨RX11, TX11, 36, "LineFollowerBenchModel", tyX11, rfl, by decide, in_X11, u1576, Or.inl rfl, by decide, tyX11_ok, nmX11, by decide +kernel, rfl, fun _ => rfl⟩
theorem ob_11_16 (w : mH) (a : Nat) (v : Option Nat) : mOb (sfr w a 16 v) a 11 = (mOb w a 11).set 16 (va_rf v) := by simp [mOb, hfi_sfr, hfl_sfr, hfr_sfr, up2]
theorem p_X11_45 : mPut "LineFollowerBenchModel" 45 11 17 (.array .int) true := ⟨RX11, TX11, 36, "LineFollowerBenchModel", tyX11, rfl, by decide, in_X11, u1577, Or.inl rfl, by decide, tyX11_ok, nmX11, by decide +kernel, rfl, fun _ => rfl⟩
theorem ob_11_17 (w : mH) (a : Nat) (v : Option Nat) : mOb (sfr w a 17 v) a 11 = (mOb w a 11).set 17 (va_rf v) := by simp [mOb, hfi_sfr, hfl_sfr, hfr_sfr, up2]
theorem p_X11_48 : mPut "LineFollowerBenchModel" 48 11 18 (.array .int) true := ⟨RX11, TX11, 36, "LineFollowerBenchModel", tyX11, rfl, by decide, in_X11, u1578, Or.inl rfl, by decide, tyX11_ok, nmX11, by decide +kernel, rfl, fun _ => rfl⟩
theorem ob_11_18 (w : mH) (a : Nat) (v : Option Nat) : mOb (sfr w a 18 v) a 11 = (mOb w a 11).set 18 (va_rf v) := by simp [mOb, hfi_sfr, hfl_sfr, hfr_sfr, up2]
theorem p_X11_51 : mPut "LineFollowerBenchModel" 51 11 19 (.array .int) true := ⟨RX11, TX11, 36, "LineFollowerBenchModel", tyX11, rfl, by decide, in_X11, u1579, Or.inl rfl, by decide, tyX11_ok, nmX11, by decide +kernel, rfl, fun _ => rfl⟩
theorem ob_11_19 (w : mH) (a : Nat) (v : Option Nat) : mOb (sfr w a 19 v) a 11 = (mOb w a 11).set 19 (va_rf v) := by simp [mOb, hfi_sfr, hfl_sfr, hfr_sfr, up2]
theorem p_X11_54 : mPut "LineFollowerBenchModel" 54 11 20 (.array .int) true := ⟨RX11, TX11, 36, "LineFollowerBenchModel", tyX11, rfl, by decide, in_X11, u1580, Or.inl rfl, by decide, tyX11_ok, nmX11, by decide +kernel, rfl, fun _ => rfl⟩
theorem ob_11_20 (w : mH) (a : Nat) (v : Option Nat) : mOb (sfr w a 20 v) a 11 = (mOb w a 11).set 20 (va_rf v) := by simp [mOb, hfi_sfr, hfl_sfr, hfr_sfr, up2]
theorem p_X11_57 : mPut "LineFollowerBenchModel" 57 11 21 (.array .int) true := ⟨RX11, TX11, 36, "LineFollowerBenchModel", tyX11, rfl, by decide, in_X11, u1581, Or.inl rfl, by decide, tyX11_ok, nmX11, by decide +kernel, rfl, fun _ => rfl⟩
theorem ob_11_21 (w : mH) (a : Nat) (v : Option Nat) : mOb (sfr w a 21 v) a 11 = (mOb w a 11).set 21 (va_rf v) := by simp [mOb, hfi_sfr, hfl_sfr, hfr_sfr, up2]
theorem p_X11_60 : mPut "LineFollowerBenchModel" 60 11 27 (.array .int) true := ⟨RX11, TX11, 36, "LineFollowerBenchModel", tyX11, rfl, by decide, in_X11, u1587, Or.inl rfl, by decide, tyX11_ok, nmX11, by decide +kernel, rfl, fun _ => rfl⟩
theorem ob_11_27 (w : mH) (a : Nat) (v : Option Nat) : mOb (sfr w a 27 v) a 11 = (mOb w a 11).set 27 (va_rf v) := by simp [mOb, hfi_sfr, hfl_sfr, hfr_sfr, up2]
theorem p_X11_63 : mPut "LineFollowerBenchModel" 63 11 30 (.array .int) true := ⟨RX11, TX11, 36, "LineFollowerBenchModel", tyX11, rfl, by decide, in_X11, u1590, Or.inl rfl, by decide, tyX11_ok, nmX11, by decide +kernel, rfl, fun _ => rfl⟩
theorem ob_11_30 (w : mH) (a : Nat) (v : Option Nat) : mOb (sfr w a 30 v) a 11 = (mOb w a 11).set 30 (va_rf v) := by simp [mOb, hfi_sfr, hfl_sfr, hfr_sfr, up2]
theorem u1669 : (Cond.arrayClass .boolean : Cond) ∈ mTs := mTs_in 1669 (by decide +kernel) (by decide +kernel)
theorem p_X11_66 : mPut "LineFollowerBenchModel" 66 11 31 (.array .boolean) true := ⟨RX11, TX11, 36, "LineFollowerBenchModel", tyX11, rfl, by decide, in_X11, u1591, Or.inl rfl, by decide, tyX11_ok, nmX11, by decide +kernel, rfl, fun _ => rfl⟩
theorem ob_11_31 (w : mH) (a : Nat) (v : Option Nat) : mOb (sfr w a 31 v) a 11 = (mOb w a 11).set 31 (va_rf v) := by simp [mOb, hfi_sfr, hfl_sfr, hfr_sfr, up2]
theorem p_X11_70 : mPut "LineFollowerBenchModel" 70 11 32 (.array .int) true := ⟨RX11, TX11, 36, "LineFollowerBenchModel", tyX11, rfl, by decide, in_X11, u1592, Or.inl rfl, by decide, tyX11_ok, nmX11, by decide +kernel, rfl, fun _ => rfl⟩
theorem ob_11_32 (w : mH) (a : Nat) (v : Option Nat) : mOb (sfr w a 32 v) a 11 = (mOb w a 11).set 32 (va_rf v) := by simp [mOb, hfi_sfr, hfl_sfr, hfr_sfr, up2]
theorem p_X11_73 : mPut "LineFollowerBenchModel" 73 11 33 (.array .long) true := ⟨RX11, TX11, 36, "LineFollowerBenchModel", tyX11, rfl, by decide, in_X11, u1593, Or.inl rfl, by decide, tyX11_ok, nmX11, by decide +kernel, rfl, fun _ => rfl⟩
theorem ob_11_33 (w : mH) (a : Nat) (v : Option Nat) : mOb (sfr w a 33 v) a 11 = (mOb w a 11).set 33 (va_rf v) := by simp [mOb, hfi_sfr, hfl_sfr, hfr_sfr, up2]
theorem p_X11_77 : mPut "LineFollowerBenchModel" 77 11 34 (.array .int) true := ⟨RX11, TX11, 36, "LineFollowerBenchModel", tyX11, rfl, by decide, in_X11, u1594, Or.inl rfl, by decide, tyX11_ok, nmX11, by decide +kernel, rfl, fun _ => rfl⟩
theorem ob_11_34 (w : mH) (a : Nat) (v : Option Nat) : mOb (sfr w a 34 v) a 11 = (mOb w a 11).set 34 (va_rf v) := by simp [mOb, hfi_sfr, hfl_sfr, hfr_sfr, up2]
theorem p_X11_80 : mPut "LineFollowerBenchModel" 80 11 35 (.array .int) true := ⟨RX11, TX11, 36, "LineFollowerBenchModel", tyX11, rfl, by decide, in_X11, u1595, Or.inl rfl, by decide, tyX11_ok, nmX11, by decide +kernel, rfl, fun _ => rfl⟩
theorem ob_11_35 (w : mH) (a : Nat) (v : Option Nat) : mOb (sfr w a 35 v) a 11 = (mOb w a 11).set 35 (va_rf v) := by simp [mOb, hfi_sfr, hfl_sfr, hfr_sfr, up2]
theorem f_X11_24 : mFld "LineFollowerBenchModel" 24 11 4 := ⟨RX11, TX11, 36, "LineFollowerBenchModel", rfl, by decide, in_X11, u1564, Or.inl rfl, by decide⟩
abbrev mX11_init : mM := (yX11_init, cX11_init, 2, none, [])
def qX11_init_1 : mQ := qVn (q0 11) (16, 624)
def qX11_init_2 : mQ := qVr qX11_init_1 0 1 1
def qX11_init_3 : mQ := qVn qX11_init_2 (16, 15)
def qX11_init_4 : mQ := qVa qX11_init_3 2 0 0
def qX11_init_5 : mQ := qVa qX11_init_4 2 1 0
def qX11_init_6 : mQ := qVa qX11_init_5 2 2 0
def qX11_init_7 : mQ := qVa qX11_init_6 2 3 1
def qX11_init_8 : mQ := qVa qX11_init_7 2 4 1
def qX11_init_9 : mQ := qVa qX11_init_8 2 5 1
def qX11_init_10 : mQ := qVa qX11_init_9 2 6 0
def qX11_init_11 : mQ := qVa qX11_init_10 2 7 0
def qX11_init_12 : mQ := qVa qX11_init_11 2 8 0
def qX11_init_13 : mQ := qVa qX11_init_12 2 9 0
def qX11_init_14 : mQ := qVa qX11_init_13 2 10 0
def qX11_init_15 : mQ := qVa qX11_init_14 2 11 0
def qX11_init_16 : mQ := qVa qX11_init_15 2 12 (-2000)
def qX11_init_17 : mQ := qVa qX11_init_16 2 13 1
def qX11_init_18 : mQ := qVa qX11_init_17 2 14 0
def qX11_init_19 : mQ := qVr qX11_init_18 0 2 2
def qX11_init_20 : mQ := qVn qX11_init_19 (16, 15)
def qX11_init_21 : mQ := qVa qX11_init_20 3 0 999
def qX11_init_22 : mQ := qVa qX11_init_21 3 1 999
def qX11_init_23 : mQ := qVa qX11_init_22 3 2 999
def qX11_init_24 : mQ := qVa qX11_init_23 3 3 1000
def qX11_init_25 : mQ := qVa qX11_init_24 3 4 1000
def qX11_init_26 : mQ := qVa qX11_init_25 3 5 100
def qX11_init_27 : mQ := qVa qX11_init_26 3 6 5
def qX11_init_28 : mQ := qVa qX11_init_27 3 7 3
def qX11_init_29 : mQ := qVa qX11_init_28 3 8 100000
def qX11_init_30 : mQ := qVa qX11_init_29 3 9 64
def qX11_init_31 : mQ := qVa qX11_init_30 3 10 2
def qX11_init_32 : mQ := qVa qX11_init_31 3 11 1000
def qX11_init_33 : mQ := qVa qX11_init_32 3 12 2000
def qX11_init_34 : mQ := qVa qX11_init_33 3 13 200
def qX11_init_35 : mQ := qVa qX11_init_34 3 14 1000
def qX11_init_36 : mQ := qVr qX11_init_35 0 3 3
def qX11_init_37 : mQ := qVn qX11_init_36 (16, 15)
def qX11_init_38 : mQ := qVa qX11_init_37 4 0 64
def qX11_init_39 : mQ := qVa qX11_init_38 4 1 0
def qX11_init_40 : mQ := qVa qX11_init_39 4 2 0
def qX11_init_41 : mQ := qVa qX11_init_40 4 3 400
def qX11_init_42 : mQ := qVa qX11_init_41 4 4 1000
def qX11_init_43 : mQ := qVa qX11_init_42 4 5 1
def qX11_init_44 : mQ := qVa qX11_init_43 4 6 0
def qX11_init_45 : mQ := qVa qX11_init_44 4 7 0
def qX11_init_46 : mQ := qVa qX11_init_45 4 8 10000
def qX11_init_47 : mQ := qVa qX11_init_46 4 9 16
def qX11_init_48 : mQ := qVa qX11_init_47 4 10 0
def qX11_init_49 : mQ := qVa qX11_init_48 4 11 50
def qX11_init_50 : mQ := qVa qX11_init_49 4 12 500
def qX11_init_51 : mQ := qVa qX11_init_50 4 13 60
def qX11_init_52 : mQ := qVa qX11_init_51 4 14 20
def qX11_init_53 : mQ := qVr qX11_init_52 0 4 4
def qX11_init_54 : mQ := qVn qX11_init_53 (16, 50)
def qX11_init_55 : mQ := qVr qX11_init_54 0 7 5
def qX11_init_56 : mQ := qVi qX11_init_55 0 10 (-1)
def qX11_init_57 : mQ := qVn qX11_init_56 (16, 78)
def qX11_init_58 : mQ := qVr qX11_init_57 0 11 6
def qX11_init_59 : mQ := qVn qX11_init_58 (16, 200)
def qX11_init_60 : mQ := qVr qX11_init_59 0 13 7
def qX11_init_61 : mQ := qVn qX11_init_60 (16, 201)
def qX11_init_62 : mQ := qVr qX11_init_61 0 15 8
def qX11_init_63 : mQ := qVn qX11_init_62 (16, 200)
def qX11_init_64 : mQ := qVr qX11_init_63 0 16 9
def qX11_init_65 : mQ := qVn qX11_init_64 (16, 200)
def qX11_init_66 : mQ := qVr qX11_init_65 0 17 10
def qX11_init_67 : mQ := qVn qX11_init_66 (16, 200)
def qX11_init_68 : mQ := qVr qX11_init_67 0 18 11
def qX11_init_69 : mQ := qVn qX11_init_68 (16, 200)
def qX11_init_70 : mQ := qVr qX11_init_69 0 19 12
def qX11_init_71 : mQ := qVn qX11_init_70 (16, 200)
def qX11_init_72 : mQ := qVr qX11_init_71 0 20 13
def qX11_init_73 : mQ := qVn qX11_init_72 (16, 200)
def qX11_init_74 : mQ := qVr qX11_init_73 0 21 14
def qX11_init_75 : mQ := qVn qX11_init_74 (16, 1206)
def qX11_init_76 : mQ := qVr qX11_init_75 0 27 15
def qX11_init_77 : mQ := qVn qX11_init_76 (16, 201)
def qX11_init_78 : mQ := qVr qX11_init_77 0 30 16
def qX11_init_79 : mQ := qVn qX11_init_78 (20, 2)
def qX11_init_80 : mQ := qVr qX11_init_79 0 31 17
def qX11_init_81 : mQ := qVn qX11_init_80 (16, 6)
def qX11_init_82 : mQ := qVr qX11_init_81 0 32 18
def qX11_init_83 : mQ := qVn qX11_init_82 (17, 2)
def qX11_init_84 : mQ := qVr qX11_init_83 0 33 19
def qX11_init_85 : mQ := qVn qX11_init_84 (16, 2)
def qX11_init_86 : mQ := qVr qX11_init_85 0 34 20
def qX11_init_87 : mQ := qVn qX11_init_86 (16, 3)
def qX11_init_88 : mQ := qVr qX11_init_87 0 35 21
def qX11_init_89 : mQ := qVa qX11_init_88 1 0 64
def qX11_init_90 : mQ := qVa qX11_init_89 1 1 0
def qX11_init_91 : mQ := qVa qX11_init_90 1 2 0
def qX11_init_92 : mQ := qVa qX11_init_91 1 3 400
def qX11_init_93 : mQ := qVa qX11_init_92 1 4 1000
def qX11_init_94 : mQ := qVa qX11_init_93 1 5 1
def qX11_init_95 : mQ := qVa qX11_init_94 1 6 0
def qX11_init_96 : mQ := qVa qX11_init_95 1 7 0
def qX11_init_97 : mQ := qVa qX11_init_96 1 8 10000
def qX11_init_98 : mQ := qVa qX11_init_97 1 9 16
def qX11_init_99 : mQ := qVa qX11_init_98 1 10 0
def qX11_init_100 : mQ := qVa qX11_init_99 1 11 50
def qX11_init_101 : mQ := qVa qX11_init_100 1 12 500
def qX11_init_102 : mQ := qVa qX11_init_101 1 13 60
def qX11_init_103 : mQ := qVa qX11_init_102 1 14 20
def qX11_init_104 : mQ := qVa qX11_init_103 1 15 1
def qX11_init_105 : mQ := qVa qX11_init_104 1 16 1
def qX11_init_106 : mQ := qVa qX11_init_105 1 21 32
def qX11_init_107 : mQ := qVa qX11_init_106 1 22 3
def qX11_init_108 : mQ := qVa qX11_init_107 1 24 32
def qX11_init_109 : mQ := qVa qX11_init_108 1 25 3
def qX11_init_110 : mQ := qVa qX11_init_109 1 27 32
def qX11_init_111 : mQ := qVa qX11_init_110 1 28 3
set_option maxHeartbeats 4000000 in
set_option maxRecDepth 100000 in
theorem iX11_init {G : mG} {b : Nat} {w : mH} : mC G mX11_init 1 21 3820 [.ref b] (wR b (q0 11) w) (mEq (.inl none) (wR b qX11_init_111 w)) := by
  refine mC_of (by decide +kernel) rfl (Nat.le_of_ble_eq_true rfl) rfl ?_
  refine mW_aload_n (j := 0) dX11_init_0 rfl rfl ?_
  refine mW_objInit dX11_init_1 u1558 u111 u112 (Nat.le_of_ble_eq_true rfl) (by decide) ?_
  refine mW_aload_n (j := 0) dX11_init_4 rfl rfl ?_
  refine mW_sipush (v := 624) dX11_init_5 (by decide) ?_
  refine mW_newI (N := 624) (kc2 := 20) (ks2 := 3196) dX11_init_8 u148 (by decide) rfl (by decide) rfl rfl ?_
  refine mW_ws (st2 := [.ref (b + 1), .ref b]) (w2 := wR b qX11_init_1 w) rfl R_N ?_
  refine mW_putF (ty := .array .int) (w2 := sfr (wR b qX11_init_1 w) b 1 (some (b + 1))) dX11_init_10 p_X11_13 rfl (R_k (o := 0) (x := (11, 0)) (by decide +kernel) (by decide +kernel)) (Nat.le_of_ble_eq_true rfl) (by first | rfl | decide | (repeat' split) <;> rfl) rfl (hN_sfr _ _ _ _) (hk_sfr _ _ _ _) (mE_sfr (R_k (o := 0) (x := (11, 0)) (by decide +kernel) (by decide +kernel)) (by decide) (ob_11_1 _ _ _)) ?_
  refine mW_ws (st2 := []) (w2 := wR b qX11_init_2 w) rfl (R_R (o := 0) (by decide +kernel)) ?_
  refine mW_aload_n (j := 0) dX11_init_13 rfl rfl ?_
  refine mW_bipush (v := 15) dX11_init_14 (by decide) ?_
  refine mW_newI (N := 15) (kc2 := 19) (ks2 := 3181) dX11_init_16 u148 (by decide) rfl (by decide) rfl rfl ?_
  refine mW_ws (st2 := [.ref (b + 2), .ref b]) (w2 := wR b qX11_init_3 w) rfl R_N ?_
  refine mW_dup dX11_init_18 rfl ?_
  refine mW_iconst (v := 0) dX11_init_19 (by decide) ?_
  refine mW_iconst (v := 0) dX11_init_20 (by decide) ?_
  refine mW_iastJ (j := 0) dX11_init_21 (R_k (o := 2) (x := (16, 15)) (by decide +kernel) (by decide +kernel)) (by unfold vp_in; decide) rfl ?_
  refine mW_ws (st2 := [.ref (b + 2), .ref b]) (w2 := wR b qX11_init_4 w) rfl (R_A (by decide +kernel)) ?_
  refine mW_dup dX11_init_22 rfl ?_
  refine mW_iconst (v := 1) dX11_init_23 (by decide) ?_
  refine mW_iconst (v := 0) dX11_init_24 (by decide) ?_
  refine mW_iastJ (j := 1) dX11_init_25 (R_k (o := 2) (x := (16, 15)) (by decide +kernel) (by decide +kernel)) (by unfold vp_in; decide) rfl ?_
  refine mW_ws (st2 := [.ref (b + 2), .ref b]) (w2 := wR b qX11_init_5 w) rfl (R_A (by decide +kernel)) ?_
  refine mW_dup dX11_init_26 rfl ?_
  refine mW_iconst (v := 2) dX11_init_27 (by decide) ?_
  refine mW_iconst (v := 0) dX11_init_28 (by decide) ?_
  refine mW_iastJ (j := 2) dX11_init_29 (R_k (o := 2) (x := (16, 15)) (by decide +kernel) (by decide +kernel)) (by unfold vp_in; decide) rfl ?_
  refine mW_ws (st2 := [.ref (b + 2), .ref b]) (w2 := wR b qX11_init_6 w) rfl (R_A (by decide +kernel)) ?_
  refine mW_dup dX11_init_30 rfl ?_
  refine mW_iconst (v := 3) dX11_init_31 (by decide) ?_
  refine mW_iconst (v := 1) dX11_init_32 (by decide) ?_
  refine mW_iastJ (j := 3) dX11_init_33 (R_k (o := 2) (x := (16, 15)) (by decide +kernel) (by decide +kernel)) (by unfold vp_in; decide) rfl ?_
  refine mW_ws (st2 := [.ref (b + 2), .ref b]) (w2 := wR b qX11_init_7 w) rfl (R_A (by decide +kernel)) ?_
  refine mW_dup dX11_init_34 rfl ?_
  refine mW_iconst (v := 4) dX11_init_35 (by decide) ?_
  refine mW_iconst (v := 1) dX11_init_36 (by decide) ?_
  refine mW_iastJ (j := 4) dX11_init_37 (R_k (o := 2) (x := (16, 15)) (by decide +kernel) (by decide +kernel)) (by unfold vp_in; decide) rfl ?_
  refine mW_ws (st2 := [.ref (b + 2), .ref b]) (w2 := wR b qX11_init_8 w) rfl (R_A (by decide +kernel)) ?_
  refine mW_dup dX11_init_38 rfl ?_
  refine mW_iconst (v := 5) dX11_init_39 (by decide) ?_
  refine mW_iconst (v := 1) dX11_init_40 (by decide) ?_
  refine mW_iastJ (j := 5) dX11_init_41 (R_k (o := 2) (x := (16, 15)) (by decide +kernel) (by decide +kernel)) (by unfold vp_in; decide) rfl ?_
  refine mW_ws (st2 := [.ref (b + 2), .ref b]) (w2 := wR b qX11_init_9 w) rfl (R_A (by decide +kernel)) ?_
  refine mW_dup dX11_init_42 rfl ?_
  refine mW_bipush (v := 6) dX11_init_43 (by decide) ?_
  refine mW_iconst (v := 0) dX11_init_45 (by decide) ?_
  refine mW_iastJ (j := 6) dX11_init_46 (R_k (o := 2) (x := (16, 15)) (by decide +kernel) (by decide +kernel)) (by unfold vp_in; decide) rfl ?_
  refine mW_ws (st2 := [.ref (b + 2), .ref b]) (w2 := wR b qX11_init_10 w) rfl (R_A (by decide +kernel)) ?_
  refine mW_dup dX11_init_47 rfl ?_
  refine mW_bipush (v := 7) dX11_init_48 (by decide) ?_
  refine mW_iconst (v := 0) dX11_init_50 (by decide) ?_
  refine mW_iastJ (j := 7) dX11_init_51 (R_k (o := 2) (x := (16, 15)) (by decide +kernel) (by decide +kernel)) (by unfold vp_in; decide) rfl ?_
  refine mW_ws (st2 := [.ref (b + 2), .ref b]) (w2 := wR b qX11_init_11 w) rfl (R_A (by decide +kernel)) ?_
  refine mW_dup dX11_init_52 rfl ?_
  refine mW_bipush (v := 8) dX11_init_53 (by decide) ?_
  refine mW_iconst (v := 0) dX11_init_55 (by decide) ?_
  refine mW_iastJ (j := 8) dX11_init_56 (R_k (o := 2) (x := (16, 15)) (by decide +kernel) (by decide +kernel)) (by unfold vp_in; decide) rfl ?_
  refine mW_ws (st2 := [.ref (b + 2), .ref b]) (w2 := wR b qX11_init_12 w) rfl (R_A (by decide +kernel)) ?_
  refine mW_dup dX11_init_57 rfl ?_
  refine mW_bipush (v := 9) dX11_init_58 (by decide) ?_
  refine mW_iconst (v := 0) dX11_init_60 (by decide) ?_
  refine mW_iastJ (j := 9) dX11_init_61 (R_k (o := 2) (x := (16, 15)) (by decide +kernel) (by decide +kernel)) (by unfold vp_in; decide) rfl ?_
  refine mW_ws (st2 := [.ref (b + 2), .ref b]) (w2 := wR b qX11_init_13 w) rfl (R_A (by decide +kernel)) ?_
  refine mW_dup dX11_init_62 rfl ?_
  refine mW_bipush (v := 10) dX11_init_63 (by decide) ?_
  refine mW_iconst (v := 0) dX11_init_65 (by decide) ?_
  refine mW_iastJ (j := 10) dX11_init_66 (R_k (o := 2) (x := (16, 15)) (by decide +kernel) (by decide +kernel)) (by unfold vp_in; decide) rfl ?_
  refine mW_ws (st2 := [.ref (b + 2), .ref b]) (w2 := wR b qX11_init_14 w) rfl (R_A (by decide +kernel)) ?_
  refine mW_dup dX11_init_67 rfl ?_
  refine mW_bipush (v := 11) dX11_init_68 (by decide) ?_
  refine mW_iconst (v := 0) dX11_init_70 (by decide) ?_
  refine mW_iastJ (j := 11) dX11_init_71 (R_k (o := 2) (x := (16, 15)) (by decide +kernel) (by decide +kernel)) (by unfold vp_in; decide) rfl ?_
  refine mW_ws (st2 := [.ref (b + 2), .ref b]) (w2 := wR b qX11_init_15 w) rfl (R_A (by decide +kernel)) ?_
  refine mW_dup dX11_init_72 rfl ?_
  refine mW_bipush (v := 12) dX11_init_73 (by decide) ?_
  refine mW_sipush (v := (-2000)) dX11_init_75 (by decide) ?_
  refine mW_iastJ (j := 12) dX11_init_78 (R_k (o := 2) (x := (16, 15)) (by decide +kernel) (by decide +kernel)) (by unfold vp_in; decide) rfl ?_
  refine mW_ws (st2 := [.ref (b + 2), .ref b]) (w2 := wR b qX11_init_16 w) rfl (R_A (by decide +kernel)) ?_
  refine mW_dup dX11_init_79 rfl ?_
  refine mW_bipush (v := 13) dX11_init_80 (by decide) ?_
  refine mW_iconst (v := 1) dX11_init_82 (by decide) ?_
  refine mW_iastJ (j := 13) dX11_init_83 (R_k (o := 2) (x := (16, 15)) (by decide +kernel) (by decide +kernel)) (by unfold vp_in; decide) rfl ?_
  refine mW_ws (st2 := [.ref (b + 2), .ref b]) (w2 := wR b qX11_init_17 w) rfl (R_A (by decide +kernel)) ?_
  refine mW_dup dX11_init_84 rfl ?_
  refine mW_bipush (v := 14) dX11_init_85 (by decide) ?_
  refine mW_iconst (v := 0) dX11_init_87 (by decide) ?_
  refine mW_iastJ (j := 14) dX11_init_88 (R_k (o := 2) (x := (16, 15)) (by decide +kernel) (by decide +kernel)) (by unfold vp_in; decide) rfl ?_
  refine mW_ws (st2 := [.ref (b + 2), .ref b]) (w2 := wR b qX11_init_18 w) rfl (R_A (by decide +kernel)) ?_
  refine mW_putF (ty := .array .int) (w2 := sfr (wR b qX11_init_18 w) b 2 (some (b + 2))) dX11_init_89 p_X11_17 rfl (R_k (o := 0) (x := (11, 0)) (by decide +kernel) (by decide +kernel)) (Nat.le_of_ble_eq_true rfl) (by first | rfl | decide | (repeat' split) <;> rfl) rfl (hN_sfr _ _ _ _) (hk_sfr _ _ _ _) (mE_sfr (R_k (o := 0) (x := (11, 0)) (by decide +kernel) (by decide +kernel)) (by decide) (ob_11_2 _ _ _)) ?_
  refine mW_ws (st2 := []) (w2 := wR b qX11_init_19 w) rfl (R_R (o := 0) (by decide +kernel)) ?_
  refine mW_aload_n (j := 0) dX11_init_92 rfl rfl ?_
  refine mW_bipush (v := 15) dX11_init_93 (by decide) ?_
  refine mW_newI (N := 15) (kc2 := 18) (ks2 := 3166) dX11_init_95 u148 (by decide) rfl (by decide) rfl rfl ?_
  refine mW_ws (st2 := [.ref (b + 3), .ref b]) (w2 := wR b qX11_init_20 w) rfl R_N ?_
  refine mW_dup dX11_init_97 rfl ?_
  refine mW_iconst (v := 0) dX11_init_98 (by decide) ?_
  refine mW_sipush (v := 999) dX11_init_99 (by decide) ?_
  refine mW_iastJ (j := 0) dX11_init_102 (R_k (o := 3) (x := (16, 15)) (by decide +kernel) (by decide +kernel)) (by unfold vp_in; decide) rfl ?_
  refine mW_ws (st2 := [.ref (b + 3), .ref b]) (w2 := wR b qX11_init_21 w) rfl (R_A (by decide +kernel)) ?_
  refine mW_dup dX11_init_103 rfl ?_
  refine mW_iconst (v := 1) dX11_init_104 (by decide) ?_
  refine mW_sipush (v := 999) dX11_init_105 (by decide) ?_
  refine mW_iastJ (j := 1) dX11_init_108 (R_k (o := 3) (x := (16, 15)) (by decide +kernel) (by decide +kernel)) (by unfold vp_in; decide) rfl ?_
  refine mW_ws (st2 := [.ref (b + 3), .ref b]) (w2 := wR b qX11_init_22 w) rfl (R_A (by decide +kernel)) ?_
  refine mW_dup dX11_init_109 rfl ?_
  refine mW_iconst (v := 2) dX11_init_110 (by decide) ?_
  refine mW_sipush (v := 999) dX11_init_111 (by decide) ?_
  refine mW_iastJ (j := 2) dX11_init_114 (R_k (o := 3) (x := (16, 15)) (by decide +kernel) (by decide +kernel)) (by unfold vp_in; decide) rfl ?_
  refine mW_ws (st2 := [.ref (b + 3), .ref b]) (w2 := wR b qX11_init_23 w) rfl (R_A (by decide +kernel)) ?_
  refine mW_dup dX11_init_115 rfl ?_
  refine mW_iconst (v := 3) dX11_init_116 (by decide) ?_
  refine mW_sipush (v := 1000) dX11_init_117 (by decide) ?_
  refine mW_iastJ (j := 3) dX11_init_120 (R_k (o := 3) (x := (16, 15)) (by decide +kernel) (by decide +kernel)) (by unfold vp_in; decide) rfl ?_
  refine mW_ws (st2 := [.ref (b + 3), .ref b]) (w2 := wR b qX11_init_24 w) rfl (R_A (by decide +kernel)) ?_
  refine mW_dup dX11_init_121 rfl ?_
  refine mW_iconst (v := 4) dX11_init_122 (by decide) ?_
  refine mW_sipush (v := 1000) dX11_init_123 (by decide) ?_
  refine mW_iastJ (j := 4) dX11_init_126 (R_k (o := 3) (x := (16, 15)) (by decide +kernel) (by decide +kernel)) (by unfold vp_in; decide) rfl ?_
  refine mW_ws (st2 := [.ref (b + 3), .ref b]) (w2 := wR b qX11_init_25 w) rfl (R_A (by decide +kernel)) ?_
  refine mW_dup dX11_init_127 rfl ?_
  refine mW_iconst (v := 5) dX11_init_128 (by decide) ?_
  refine mW_bipush (v := 100) dX11_init_129 (by decide) ?_
  refine mW_iastJ (j := 5) dX11_init_131 (R_k (o := 3) (x := (16, 15)) (by decide +kernel) (by decide +kernel)) (by unfold vp_in; decide) rfl ?_
  refine mW_ws (st2 := [.ref (b + 3), .ref b]) (w2 := wR b qX11_init_26 w) rfl (R_A (by decide +kernel)) ?_
  refine mW_dup dX11_init_132 rfl ?_
  refine mW_bipush (v := 6) dX11_init_133 (by decide) ?_
  refine mW_iconst (v := 5) dX11_init_135 (by decide) ?_
  refine mW_iastJ (j := 6) dX11_init_136 (R_k (o := 3) (x := (16, 15)) (by decide +kernel) (by decide +kernel)) (by unfold vp_in; decide) rfl ?_
  refine mW_ws (st2 := [.ref (b + 3), .ref b]) (w2 := wR b qX11_init_27 w) rfl (R_A (by decide +kernel)) ?_
  refine mW_dup dX11_init_137 rfl ?_
  refine mW_bipush (v := 7) dX11_init_138 (by decide) ?_
  refine mW_iconst (v := 3) dX11_init_140 (by decide) ?_
  refine mW_iastJ (j := 7) dX11_init_141 (R_k (o := 3) (x := (16, 15)) (by decide +kernel) (by decide +kernel)) (by unfold vp_in; decide) rfl ?_
  refine mW_ws (st2 := [.ref (b + 3), .ref b]) (w2 := wR b qX11_init_28 w) rfl (R_A (by decide +kernel)) ?_
  refine mW_dup dX11_init_142 rfl ?_
  refine mW_bipush (v := 8) dX11_init_143 (by decide) ?_
  refine mW_ldc (v := 100000) dX11_init_145 u1559 ?_
  refine mW_iastJ (j := 8) dX11_init_147 (R_k (o := 3) (x := (16, 15)) (by decide +kernel) (by decide +kernel)) (by unfold vp_in; decide) rfl ?_
  refine mW_ws (st2 := [.ref (b + 3), .ref b]) (w2 := wR b qX11_init_29 w) rfl (R_A (by decide +kernel)) ?_
  refine mW_dup dX11_init_148 rfl ?_
  refine mW_bipush (v := 9) dX11_init_149 (by decide) ?_
  refine mW_bipush (v := 64) dX11_init_151 (by decide) ?_
  refine mW_iastJ (j := 9) dX11_init_153 (R_k (o := 3) (x := (16, 15)) (by decide +kernel) (by decide +kernel)) (by unfold vp_in; decide) rfl ?_
  refine mW_ws (st2 := [.ref (b + 3), .ref b]) (w2 := wR b qX11_init_30 w) rfl (R_A (by decide +kernel)) ?_
  refine mW_dup dX11_init_154 rfl ?_
  refine mW_bipush (v := 10) dX11_init_155 (by decide) ?_
  refine mW_iconst (v := 2) dX11_init_157 (by decide) ?_
  refine mW_iastJ (j := 10) dX11_init_158 (R_k (o := 3) (x := (16, 15)) (by decide +kernel) (by decide +kernel)) (by unfold vp_in; decide) rfl ?_
  refine mW_ws (st2 := [.ref (b + 3), .ref b]) (w2 := wR b qX11_init_31 w) rfl (R_A (by decide +kernel)) ?_
  refine mW_dup dX11_init_159 rfl ?_
  refine mW_bipush (v := 11) dX11_init_160 (by decide) ?_
  refine mW_sipush (v := 1000) dX11_init_162 (by decide) ?_
  refine mW_iastJ (j := 11) dX11_init_165 (R_k (o := 3) (x := (16, 15)) (by decide +kernel) (by decide +kernel)) (by unfold vp_in; decide) rfl ?_
  refine mW_ws (st2 := [.ref (b + 3), .ref b]) (w2 := wR b qX11_init_32 w) rfl (R_A (by decide +kernel)) ?_
  refine mW_dup dX11_init_166 rfl ?_
  refine mW_bipush (v := 12) dX11_init_167 (by decide) ?_
  refine mW_sipush (v := 2000) dX11_init_169 (by decide) ?_
  refine mW_iastJ (j := 12) dX11_init_172 (R_k (o := 3) (x := (16, 15)) (by decide +kernel) (by decide +kernel)) (by unfold vp_in; decide) rfl ?_
  refine mW_ws (st2 := [.ref (b + 3), .ref b]) (w2 := wR b qX11_init_33 w) rfl (R_A (by decide +kernel)) ?_
  refine mW_dup dX11_init_173 rfl ?_
  refine mW_bipush (v := 13) dX11_init_174 (by decide) ?_
  refine mW_sipush (v := 200) dX11_init_176 (by decide) ?_
  refine mW_iastJ (j := 13) dX11_init_179 (R_k (o := 3) (x := (16, 15)) (by decide +kernel) (by decide +kernel)) (by unfold vp_in; decide) rfl ?_
  refine mW_ws (st2 := [.ref (b + 3), .ref b]) (w2 := wR b qX11_init_34 w) rfl (R_A (by decide +kernel)) ?_
  refine mW_dup dX11_init_180 rfl ?_
  refine mW_bipush (v := 14) dX11_init_181 (by decide) ?_
  refine mW_sipush (v := 1000) dX11_init_183 (by decide) ?_
  refine mW_iastJ (j := 14) dX11_init_186 (R_k (o := 3) (x := (16, 15)) (by decide +kernel) (by decide +kernel)) (by unfold vp_in; decide) rfl ?_
  refine mW_ws (st2 := [.ref (b + 3), .ref b]) (w2 := wR b qX11_init_35 w) rfl (R_A (by decide +kernel)) ?_
  refine mW_putF (ty := .array .int) (w2 := sfr (wR b qX11_init_35 w) b 3 (some (b + 3))) dX11_init_187 p_X11_21 rfl (R_k (o := 0) (x := (11, 0)) (by decide +kernel) (by decide +kernel)) (Nat.le_of_ble_eq_true rfl) (by first | rfl | decide | (repeat' split) <;> rfl) rfl (hN_sfr _ _ _ _) (hk_sfr _ _ _ _) (mE_sfr (R_k (o := 0) (x := (11, 0)) (by decide +kernel) (by decide +kernel)) (by decide) (ob_11_3 _ _ _)) ?_
  refine mW_ws (st2 := []) (w2 := wR b qX11_init_36 w) rfl (R_R (o := 0) (by decide +kernel)) ?_
  refine mW_aload_n (j := 0) dX11_init_190 rfl rfl ?_
  refine mW_bipush (v := 15) dX11_init_191 (by decide) ?_
  refine mW_newI (N := 15) (kc2 := 17) (ks2 := 3151) dX11_init_193 u148 (by decide) rfl (by decide) rfl rfl ?_
  refine mW_ws (st2 := [.ref (b + 4), .ref b]) (w2 := wR b qX11_init_37 w) rfl R_N ?_
  refine mW_dup dX11_init_195 rfl ?_
  refine mW_iconst (v := 0) dX11_init_196 (by decide) ?_
  refine mW_bipush (v := 64) dX11_init_197 (by decide) ?_
  refine mW_iastJ (j := 0) dX11_init_199 (R_k (o := 4) (x := (16, 15)) (by decide +kernel) (by decide +kernel)) (by unfold vp_in; decide) rfl ?_
  refine mW_ws (st2 := [.ref (b + 4), .ref b]) (w2 := wR b qX11_init_38 w) rfl (R_A (by decide +kernel)) ?_
  refine mW_dup dX11_init_200 rfl ?_
  refine mW_iconst (v := 1) dX11_init_201 (by decide) ?_
  refine mW_iconst (v := 0) dX11_init_202 (by decide) ?_
  refine mW_iastJ (j := 1) dX11_init_203 (R_k (o := 4) (x := (16, 15)) (by decide +kernel) (by decide +kernel)) (by unfold vp_in; decide) rfl ?_
  refine mW_ws (st2 := [.ref (b + 4), .ref b]) (w2 := wR b qX11_init_39 w) rfl (R_A (by decide +kernel)) ?_
  refine mW_dup dX11_init_204 rfl ?_
  refine mW_iconst (v := 2) dX11_init_205 (by decide) ?_
  refine mW_iconst (v := 0) dX11_init_206 (by decide) ?_
  refine mW_iastJ (j := 2) dX11_init_207 (R_k (o := 4) (x := (16, 15)) (by decide +kernel) (by decide +kernel)) (by unfold vp_in; decide) rfl ?_
  refine mW_ws (st2 := [.ref (b + 4), .ref b]) (w2 := wR b qX11_init_40 w) rfl (R_A (by decide +kernel)) ?_
  refine mW_dup dX11_init_208 rfl ?_
  refine mW_iconst (v := 3) dX11_init_209 (by decide) ?_
  refine mW_sipush (v := 400) dX11_init_210 (by decide) ?_
  refine mW_iastJ (j := 3) dX11_init_213 (R_k (o := 4) (x := (16, 15)) (by decide +kernel) (by decide +kernel)) (by unfold vp_in; decide) rfl ?_
  refine mW_ws (st2 := [.ref (b + 4), .ref b]) (w2 := wR b qX11_init_41 w) rfl (R_A (by decide +kernel)) ?_
  refine mW_dup dX11_init_214 rfl ?_
  refine mW_iconst (v := 4) dX11_init_215 (by decide) ?_
  refine mW_sipush (v := 1000) dX11_init_216 (by decide) ?_
  refine mW_iastJ (j := 4) dX11_init_219 (R_k (o := 4) (x := (16, 15)) (by decide +kernel) (by decide +kernel)) (by unfold vp_in; decide) rfl ?_
  refine mW_ws (st2 := [.ref (b + 4), .ref b]) (w2 := wR b qX11_init_42 w) rfl (R_A (by decide +kernel)) ?_
  refine mW_dup dX11_init_220 rfl ?_
  refine mW_iconst (v := 5) dX11_init_221 (by decide) ?_
  refine mW_iconst (v := 1) dX11_init_222 (by decide) ?_
  refine mW_iastJ (j := 5) dX11_init_223 (R_k (o := 4) (x := (16, 15)) (by decide +kernel) (by decide +kernel)) (by unfold vp_in; decide) rfl ?_
  refine mW_ws (st2 := [.ref (b + 4), .ref b]) (w2 := wR b qX11_init_43 w) rfl (R_A (by decide +kernel)) ?_
  refine mW_dup dX11_init_224 rfl ?_
  refine mW_bipush (v := 6) dX11_init_225 (by decide) ?_
  refine mW_iconst (v := 0) dX11_init_227 (by decide) ?_
  refine mW_iastJ (j := 6) dX11_init_228 (R_k (o := 4) (x := (16, 15)) (by decide +kernel) (by decide +kernel)) (by unfold vp_in; decide) rfl ?_
  refine mW_ws (st2 := [.ref (b + 4), .ref b]) (w2 := wR b qX11_init_44 w) rfl (R_A (by decide +kernel)) ?_
  refine mW_dup dX11_init_229 rfl ?_
  refine mW_bipush (v := 7) dX11_init_230 (by decide) ?_
  refine mW_iconst (v := 0) dX11_init_232 (by decide) ?_
  refine mW_iastJ (j := 7) dX11_init_233 (R_k (o := 4) (x := (16, 15)) (by decide +kernel) (by decide +kernel)) (by unfold vp_in; decide) rfl ?_
  refine mW_ws (st2 := [.ref (b + 4), .ref b]) (w2 := wR b qX11_init_45 w) rfl (R_A (by decide +kernel)) ?_
  refine mW_dup dX11_init_234 rfl ?_
  refine mW_bipush (v := 8) dX11_init_235 (by decide) ?_
  refine mW_sipush (v := 10000) dX11_init_237 (by decide) ?_
  refine mW_iastJ (j := 8) dX11_init_240 (R_k (o := 4) (x := (16, 15)) (by decide +kernel) (by decide +kernel)) (by unfold vp_in; decide) rfl ?_
  refine mW_ws (st2 := [.ref (b + 4), .ref b]) (w2 := wR b qX11_init_46 w) rfl (R_A (by decide +kernel)) ?_
  refine mW_dup dX11_init_241 rfl ?_
  refine mW_bipush (v := 9) dX11_init_242 (by decide) ?_
  refine mW_bipush (v := 16) dX11_init_244 (by decide) ?_
  refine mW_iastJ (j := 9) dX11_init_246 (R_k (o := 4) (x := (16, 15)) (by decide +kernel) (by decide +kernel)) (by unfold vp_in; decide) rfl ?_
  refine mW_ws (st2 := [.ref (b + 4), .ref b]) (w2 := wR b qX11_init_47 w) rfl (R_A (by decide +kernel)) ?_
  refine mW_dup dX11_init_247 rfl ?_
  refine mW_bipush (v := 10) dX11_init_248 (by decide) ?_
  refine mW_iconst (v := 0) dX11_init_250 (by decide) ?_
  refine mW_iastJ (j := 10) dX11_init_251 (R_k (o := 4) (x := (16, 15)) (by decide +kernel) (by decide +kernel)) (by unfold vp_in; decide) rfl ?_
  refine mW_ws (st2 := [.ref (b + 4), .ref b]) (w2 := wR b qX11_init_48 w) rfl (R_A (by decide +kernel)) ?_
  refine mW_dup dX11_init_252 rfl ?_
  refine mW_bipush (v := 11) dX11_init_253 (by decide) ?_
  refine mW_bipush (v := 50) dX11_init_255 (by decide) ?_
  refine mW_iastJ (j := 11) dX11_init_257 (R_k (o := 4) (x := (16, 15)) (by decide +kernel) (by decide +kernel)) (by unfold vp_in; decide) rfl ?_
  refine mW_ws (st2 := [.ref (b + 4), .ref b]) (w2 := wR b qX11_init_49 w) rfl (R_A (by decide +kernel)) ?_
  refine mW_dup dX11_init_258 rfl ?_
  refine mW_bipush (v := 12) dX11_init_259 (by decide) ?_
  refine mW_sipush (v := 500) dX11_init_261 (by decide) ?_
  refine mW_iastJ (j := 12) dX11_init_264 (R_k (o := 4) (x := (16, 15)) (by decide +kernel) (by decide +kernel)) (by unfold vp_in; decide) rfl ?_
  refine mW_ws (st2 := [.ref (b + 4), .ref b]) (w2 := wR b qX11_init_50 w) rfl (R_A (by decide +kernel)) ?_
  refine mW_dup dX11_init_265 rfl ?_
  refine mW_bipush (v := 13) dX11_init_266 (by decide) ?_
  refine mW_bipush (v := 60) dX11_init_268 (by decide) ?_
  refine mW_iastJ (j := 13) dX11_init_270 (R_k (o := 4) (x := (16, 15)) (by decide +kernel) (by decide +kernel)) (by unfold vp_in; decide) rfl ?_
  refine mW_ws (st2 := [.ref (b + 4), .ref b]) (w2 := wR b qX11_init_51 w) rfl (R_A (by decide +kernel)) ?_
  refine mW_dup dX11_init_271 rfl ?_
  refine mW_bipush (v := 14) dX11_init_272 (by decide) ?_
  refine mW_bipush (v := 20) dX11_init_274 (by decide) ?_
  refine mW_iastJ (j := 14) dX11_init_276 (R_k (o := 4) (x := (16, 15)) (by decide +kernel) (by decide +kernel)) (by unfold vp_in; decide) rfl ?_
  refine mW_ws (st2 := [.ref (b + 4), .ref b]) (w2 := wR b qX11_init_52 w) rfl (R_A (by decide +kernel)) ?_
  refine mW_putF (ty := .array .int) (w2 := sfr (wR b qX11_init_52 w) b 4 (some (b + 4))) dX11_init_277 p_X11_24 rfl (R_k (o := 0) (x := (11, 0)) (by decide +kernel) (by decide +kernel)) (Nat.le_of_ble_eq_true rfl) (by first | rfl | decide | (repeat' split) <;> rfl) rfl (hN_sfr _ _ _ _) (hk_sfr _ _ _ _) (mE_sfr (R_k (o := 0) (x := (11, 0)) (by decide +kernel) (by decide +kernel)) (by decide) (ob_11_4 _ _ _)) ?_
  refine mW_ws (st2 := []) (w2 := wR b qX11_init_53 w) rfl (R_R (o := 0) (by decide +kernel)) ?_
  refine mW_aload_n (j := 0) dX11_init_280 rfl rfl ?_
  refine mW_bipush (v := 50) dX11_init_281 (by decide) ?_
  refine mW_newI (N := 50) (kc2 := 16) (ks2 := 3101) dX11_init_283 u148 (by decide) rfl (by decide) rfl rfl ?_
  refine mW_ws (st2 := [.ref (b + 5), .ref b]) (w2 := wR b qX11_init_54 w) rfl R_N ?_
  refine mW_putF (ty := .array .int) (w2 := sfr (wR b qX11_init_54 w) b 7 (some (b + 5))) dX11_init_285 p_X11_27 rfl (R_k (o := 0) (x := (11, 0)) (by decide +kernel) (by decide +kernel)) (Nat.le_of_ble_eq_true rfl) (by first | rfl | decide | (repeat' split) <;> rfl) rfl (hN_sfr _ _ _ _) (hk_sfr _ _ _ _) (mE_sfr (R_k (o := 0) (x := (11, 0)) (by decide +kernel) (by decide +kernel)) (by decide) (ob_11_7 _ _ _)) ?_
  refine mW_ws (st2 := []) (w2 := wR b qX11_init_55 w) rfl (R_R (o := 0) (by decide +kernel)) ?_
  refine mW_aload_n (j := 0) dX11_init_288 rfl rfl ?_
  refine mW_iconst (v := (-1)) dX11_init_289 (by decide) ?_
  refine mW_put (ty := .int) (w2 := sfi (wR b qX11_init_55 w) b 10 (-1)) dX11_init_290 p_X11_30 (R_k (o := 0) (x := (11, 0)) (by decide +kernel) (by decide +kernel)) (Nat.le_of_ble_eq_true rfl) (by first | rfl | decide | (repeat' split) <;> rfl) rfl (hN_sfi _ _ _ _) (hk_sfi _ _ _ _) (mE_sfi (R_k (o := 0) (x := (11, 0)) (by decide +kernel) (by decide +kernel)) (by decide) (ob_11_10 _ _ _)) ?_
  refine mW_ws (st2 := []) (w2 := wR b qX11_init_56 w) rfl (R_I (o := 0) (by decide +kernel)) ?_
  refine mW_aload_n (j := 0) dX11_init_293 rfl rfl ?_
  refine mW_bipush (v := 78) dX11_init_294 (by decide) ?_
  refine mW_newI (N := 78) (kc2 := 15) (ks2 := 3023) dX11_init_296 u148 (by decide) rfl (by decide) rfl rfl ?_
  refine mW_ws (st2 := [.ref (b + 6), .ref b]) (w2 := wR b qX11_init_57 w) rfl R_N ?_
  refine mW_putF (ty := .array .int) (w2 := sfr (wR b qX11_init_57 w) b 11 (some (b + 6))) dX11_init_298 p_X11_33 rfl (R_k (o := 0) (x := (11, 0)) (by decide +kernel) (by decide +kernel)) (Nat.le_of_ble_eq_true rfl) (by first | rfl | decide | (repeat' split) <;> rfl) rfl (hN_sfr _ _ _ _) (hk_sfr _ _ _ _) (mE_sfr (R_k (o := 0) (x := (11, 0)) (by decide +kernel) (by decide +kernel)) (by decide) (ob_11_11 _ _ _)) ?_
  refine mW_ws (st2 := []) (w2 := wR b qX11_init_58 w) rfl (R_R (o := 0) (by decide +kernel)) ?_
  refine mW_aload_n (j := 0) dX11_init_301 rfl rfl ?_
  refine mW_sipush (v := 200) dX11_init_302 (by decide) ?_
  refine mW_newI (N := 200) (kc2 := 14) (ks2 := 2823) dX11_init_305 u148 (by decide) rfl (by decide) rfl rfl ?_
  refine mW_ws (st2 := [.ref (b + 7), .ref b]) (w2 := wR b qX11_init_59 w) rfl R_N ?_
  refine mW_putF (ty := .array .int) (w2 := sfr (wR b qX11_init_59 w) b 13 (some (b + 7))) dX11_init_307 p_X11_36 rfl (R_k (o := 0) (x := (11, 0)) (by decide +kernel) (by decide +kernel)) (Nat.le_of_ble_eq_true rfl) (by first | rfl | decide | (repeat' split) <;> rfl) rfl (hN_sfr _ _ _ _) (hk_sfr _ _ _ _) (mE_sfr (R_k (o := 0) (x := (11, 0)) (by decide +kernel) (by decide +kernel)) (by decide) (ob_11_13 _ _ _)) ?_
  refine mW_ws (st2 := []) (w2 := wR b qX11_init_60 w) rfl (R_R (o := 0) (by decide +kernel)) ?_
  refine mW_aload_n (j := 0) dX11_init_310 rfl rfl ?_
  refine mW_sipush (v := 201) dX11_init_311 (by decide) ?_
  refine mW_newI (N := 201) (kc2 := 13) (ks2 := 2622) dX11_init_314 u148 (by decide) rfl (by decide) rfl rfl ?_
  refine mW_ws (st2 := [.ref (b + 8), .ref b]) (w2 := wR b qX11_init_61 w) rfl R_N ?_
  refine mW_putF (ty := .array .int) (w2 := sfr (wR b qX11_init_61 w) b 15 (some (b + 8))) dX11_init_316 p_X11_39 rfl (R_k (o := 0) (x := (11, 0)) (by decide +kernel) (by decide +kernel)) (Nat.le_of_ble_eq_true rfl) (by first | rfl | decide | (repeat' split) <;> rfl) rfl (hN_sfr _ _ _ _) (hk_sfr _ _ _ _) (mE_sfr (R_k (o := 0) (x := (11, 0)) (by decide +kernel) (by decide +kernel)) (by decide) (ob_11_15 _ _ _)) ?_
  refine mW_ws (st2 := []) (w2 := wR b qX11_init_62 w) rfl (R_R (o := 0) (by decide +kernel)) ?_
  refine mW_aload_n (j := 0) dX11_init_319 rfl rfl ?_
  refine mW_sipush (v := 200) dX11_init_320 (by decide) ?_
  refine mW_newI (N := 200) (kc2 := 12) (ks2 := 2422) dX11_init_323 u148 (by decide) rfl (by decide) rfl rfl ?_
  refine mW_ws (st2 := [.ref (b + 9), .ref b]) (w2 := wR b qX11_init_63 w) rfl R_N ?_
  refine mW_putF (ty := .array .int) (w2 := sfr (wR b qX11_init_63 w) b 16 (some (b + 9))) dX11_init_325 p_X11_42 rfl (R_k (o := 0) (x := (11, 0)) (by decide +kernel) (by decide +kernel)) (Nat.le_of_ble_eq_true rfl) (by first | rfl | decide | (repeat' split) <;> rfl) rfl (hN_sfr _ _ _ _) (hk_sfr _ _ _ _) (mE_sfr (R_k (o := 0) (x := (11, 0)) (by decide +kernel) (by decide +kernel)) (by decide) (ob_11_16 _ _ _)) ?_
  refine mW_ws (st2 := []) (w2 := wR b qX11_init_64 w) rfl (R_R (o := 0) (by decide +kernel)) ?_
  refine mW_aload_n (j := 0) dX11_init_328 rfl rfl ?_
  refine mW_sipush (v := 200) dX11_init_329 (by decide) ?_
  refine mW_newI (N := 200) (kc2 := 11) (ks2 := 2222) dX11_init_332 u148 (by decide) rfl (by decide) rfl rfl ?_
  refine mW_ws (st2 := [.ref (b + 10), .ref b]) (w2 := wR b qX11_init_65 w) rfl R_N ?_
  refine mW_putF (ty := .array .int) (w2 := sfr (wR b qX11_init_65 w) b 17 (some (b + 10))) dX11_init_334 p_X11_45 rfl (R_k (o := 0) (x := (11, 0)) (by decide +kernel) (by decide +kernel)) (Nat.le_of_ble_eq_true rfl) (by first | rfl | decide | (repeat' split) <;> rfl) rfl (hN_sfr _ _ _ _) (hk_sfr _ _ _ _) (mE_sfr (R_k (o := 0) (x := (11, 0)) (by decide +kernel) (by decide +kernel)) (by decide) (ob_11_17 _ _ _)) ?_
  refine mW_ws (st2 := []) (w2 := wR b qX11_init_66 w) rfl (R_R (o := 0) (by decide +kernel)) ?_
  refine mW_aload_n (j := 0) dX11_init_337 rfl rfl ?_
  refine mW_sipush (v := 200) dX11_init_338 (by decide) ?_
  refine mW_newI (N := 200) (kc2 := 10) (ks2 := 2022) dX11_init_341 u148 (by decide) rfl (by decide) rfl rfl ?_
  refine mW_ws (st2 := [.ref (b + 11), .ref b]) (w2 := wR b qX11_init_67 w) rfl R_N ?_
  refine mW_putF (ty := .array .int) (w2 := sfr (wR b qX11_init_67 w) b 18 (some (b + 11))) dX11_init_343 p_X11_48 rfl (R_k (o := 0) (x := (11, 0)) (by decide +kernel) (by decide +kernel)) (Nat.le_of_ble_eq_true rfl) (by first | rfl | decide | (repeat' split) <;> rfl) rfl (hN_sfr _ _ _ _) (hk_sfr _ _ _ _) (mE_sfr (R_k (o := 0) (x := (11, 0)) (by decide +kernel) (by decide +kernel)) (by decide) (ob_11_18 _ _ _)) ?_
  refine mW_ws (st2 := []) (w2 := wR b qX11_init_68 w) rfl (R_R (o := 0) (by decide +kernel)) ?_
  refine mW_aload_n (j := 0) dX11_init_346 rfl rfl ?_
  refine mW_sipush (v := 200) dX11_init_347 (by decide) ?_
  refine mW_newI (N := 200) (kc2 := 9) (ks2 := 1822) dX11_init_350 u148 (by decide) rfl (by decide) rfl rfl ?_
  refine mW_ws (st2 := [.ref (b + 12), .ref b]) (w2 := wR b qX11_init_69 w) rfl R_N ?_
  refine mW_putF (ty := .array .int) (w2 := sfr (wR b qX11_init_69 w) b 19 (some (b + 12))) dX11_init_352 p_X11_51 rfl (R_k (o := 0) (x := (11, 0)) (by decide +kernel) (by decide +kernel)) (Nat.le_of_ble_eq_true rfl) (by first | rfl | decide | (repeat' split) <;> rfl) rfl (hN_sfr _ _ _ _) (hk_sfr _ _ _ _) (mE_sfr (R_k (o := 0) (x := (11, 0)) (by decide +kernel) (by decide +kernel)) (by decide) (ob_11_19 _ _ _)) ?_
  refine mW_ws (st2 := []) (w2 := wR b qX11_init_70 w) rfl (R_R (o := 0) (by decide +kernel)) ?_
  refine mW_aload_n (j := 0) dX11_init_355 rfl rfl ?_
  refine mW_sipush (v := 200) dX11_init_356 (by decide) ?_
  refine mW_newI (N := 200) (kc2 := 8) (ks2 := 1622) dX11_init_359 u148 (by decide) rfl (by decide) rfl rfl ?_
  refine mW_ws (st2 := [.ref (b + 13), .ref b]) (w2 := wR b qX11_init_71 w) rfl R_N ?_
  refine mW_putF (ty := .array .int) (w2 := sfr (wR b qX11_init_71 w) b 20 (some (b + 13))) dX11_init_361 p_X11_54 rfl (R_k (o := 0) (x := (11, 0)) (by decide +kernel) (by decide +kernel)) (Nat.le_of_ble_eq_true rfl) (by first | rfl | decide | (repeat' split) <;> rfl) rfl (hN_sfr _ _ _ _) (hk_sfr _ _ _ _) (mE_sfr (R_k (o := 0) (x := (11, 0)) (by decide +kernel) (by decide +kernel)) (by decide) (ob_11_20 _ _ _)) ?_
  refine mW_ws (st2 := []) (w2 := wR b qX11_init_72 w) rfl (R_R (o := 0) (by decide +kernel)) ?_
  refine mW_aload_n (j := 0) dX11_init_364 rfl rfl ?_
  refine mW_sipush (v := 200) dX11_init_365 (by decide) ?_
  refine mW_newI (N := 200) (kc2 := 7) (ks2 := 1422) dX11_init_368 u148 (by decide) rfl (by decide) rfl rfl ?_
  refine mW_ws (st2 := [.ref (b + 14), .ref b]) (w2 := wR b qX11_init_73 w) rfl R_N ?_
  refine mW_putF (ty := .array .int) (w2 := sfr (wR b qX11_init_73 w) b 21 (some (b + 14))) dX11_init_370 p_X11_57 rfl (R_k (o := 0) (x := (11, 0)) (by decide +kernel) (by decide +kernel)) (Nat.le_of_ble_eq_true rfl) (by first | rfl | decide | (repeat' split) <;> rfl) rfl (hN_sfr _ _ _ _) (hk_sfr _ _ _ _) (mE_sfr (R_k (o := 0) (x := (11, 0)) (by decide +kernel) (by decide +kernel)) (by decide) (ob_11_21 _ _ _)) ?_
  refine mW_ws (st2 := []) (w2 := wR b qX11_init_74 w) rfl (R_R (o := 0) (by decide +kernel)) ?_
  refine mW_aload_n (j := 0) dX11_init_373 rfl rfl ?_
  refine mW_sipush (v := 1206) dX11_init_374 (by decide) ?_
  refine mW_newI (N := 1206) (kc2 := 6) (ks2 := 216) dX11_init_377 u148 (by decide) rfl (by decide) rfl rfl ?_
  refine mW_ws (st2 := [.ref (b + 15), .ref b]) (w2 := wR b qX11_init_75 w) rfl R_N ?_
  refine mW_putF (ty := .array .int) (w2 := sfr (wR b qX11_init_75 w) b 27 (some (b + 15))) dX11_init_379 p_X11_60 rfl (R_k (o := 0) (x := (11, 0)) (by decide +kernel) (by decide +kernel)) (Nat.le_of_ble_eq_true rfl) (by first | rfl | decide | (repeat' split) <;> rfl) rfl (hN_sfr _ _ _ _) (hk_sfr _ _ _ _) (mE_sfr (R_k (o := 0) (x := (11, 0)) (by decide +kernel) (by decide +kernel)) (by decide) (ob_11_27 _ _ _)) ?_
  refine mW_ws (st2 := []) (w2 := wR b qX11_init_76 w) rfl (R_R (o := 0) (by decide +kernel)) ?_
  refine mW_aload_n (j := 0) dX11_init_382 rfl rfl ?_
  refine mW_sipush (v := 201) dX11_init_383 (by decide) ?_
  refine mW_newI (N := 201) (kc2 := 5) (ks2 := 15) dX11_init_386 u148 (by decide) rfl (by decide) rfl rfl ?_
  refine mW_ws (st2 := [.ref (b + 16), .ref b]) (w2 := wR b qX11_init_77 w) rfl R_N ?_
  refine mW_putF (ty := .array .int) (w2 := sfr (wR b qX11_init_77 w) b 30 (some (b + 16))) dX11_init_388 p_X11_63 rfl (R_k (o := 0) (x := (11, 0)) (by decide +kernel) (by decide +kernel)) (Nat.le_of_ble_eq_true rfl) (by first | rfl | decide | (repeat' split) <;> rfl) rfl (hN_sfr _ _ _ _) (hk_sfr _ _ _ _) (mE_sfr (R_k (o := 0) (x := (11, 0)) (by decide +kernel) (by decide +kernel)) (by decide) (ob_11_30 _ _ _)) ?_
  refine mW_ws (st2 := []) (w2 := wR b qX11_init_78 w) rfl (R_R (o := 0) (by decide +kernel)) ?_
  refine mW_aload_n (j := 0) dX11_init_391 rfl rfl ?_
  refine mW_iconst (v := 2) dX11_init_392 (by decide) ?_
  refine mW_newZ (N := 2) (kc2 := 4) (ks2 := 13) dX11_init_393 u1669 (by decide) rfl (by decide) rfl rfl ?_
  refine mW_ws (st2 := [.ref (b + 17), .ref b]) (w2 := wR b qX11_init_79 w) rfl R_N ?_
  refine mW_putF (ty := .array .boolean) (w2 := sfr (wR b qX11_init_79 w) b 31 (some (b + 17))) dX11_init_395 p_X11_66 rfl (R_k (o := 0) (x := (11, 0)) (by decide +kernel) (by decide +kernel)) (Nat.le_of_ble_eq_true rfl) (by first | rfl | decide | (repeat' split) <;> rfl) rfl (hN_sfr _ _ _ _) (hk_sfr _ _ _ _) (mE_sfr (R_k (o := 0) (x := (11, 0)) (by decide +kernel) (by decide +kernel)) (by decide) (ob_11_31 _ _ _)) ?_
  refine mW_ws (st2 := []) (w2 := wR b qX11_init_80 w) rfl (R_R (o := 0) (by decide +kernel)) ?_
  refine mW_aload_n (j := 0) dX11_init_398 rfl rfl ?_
  refine mW_bipush (v := 6) dX11_init_399 (by decide) ?_
  refine mW_newI (N := 6) (kc2 := 3) (ks2 := 7) dX11_init_401 u148 (by decide) rfl (by decide) rfl rfl ?_
  refine mW_ws (st2 := [.ref (b + 18), .ref b]) (w2 := wR b qX11_init_81 w) rfl R_N ?_
  refine mW_putF (ty := .array .int) (w2 := sfr (wR b qX11_init_81 w) b 32 (some (b + 18))) dX11_init_403 p_X11_70 rfl (R_k (o := 0) (x := (11, 0)) (by decide +kernel) (by decide +kernel)) (Nat.le_of_ble_eq_true rfl) (by first | rfl | decide | (repeat' split) <;> rfl) rfl (hN_sfr _ _ _ _) (hk_sfr _ _ _ _) (mE_sfr (R_k (o := 0) (x := (11, 0)) (by decide +kernel) (by decide +kernel)) (by decide) (ob_11_32 _ _ _)) ?_
  refine mW_ws (st2 := []) (w2 := wR b qX11_init_82 w) rfl (R_R (o := 0) (by decide +kernel)) ?_
  refine mW_aload_n (j := 0) dX11_init_406 rfl rfl ?_
  refine mW_iconst (v := 2) dX11_init_407 (by decide) ?_
  refine mW_newJ (N := 2) (kc2 := 2) (ks2 := 5) dX11_init_408 u419 (by decide) rfl (by decide) rfl rfl ?_
  refine mW_ws (st2 := [.ref (b + 19), .ref b]) (w2 := wR b qX11_init_83 w) rfl R_N ?_
  refine mW_putF (ty := .array .long) (w2 := sfr (wR b qX11_init_83 w) b 33 (some (b + 19))) dX11_init_410 p_X11_73 rfl (R_k (o := 0) (x := (11, 0)) (by decide +kernel) (by decide +kernel)) (Nat.le_of_ble_eq_true rfl) (by first | rfl | decide | (repeat' split) <;> rfl) rfl (hN_sfr _ _ _ _) (hk_sfr _ _ _ _) (mE_sfr (R_k (o := 0) (x := (11, 0)) (by decide +kernel) (by decide +kernel)) (by decide) (ob_11_33 _ _ _)) ?_
  refine mW_ws (st2 := []) (w2 := wR b qX11_init_84 w) rfl (R_R (o := 0) (by decide +kernel)) ?_
  refine mW_aload_n (j := 0) dX11_init_413 rfl rfl ?_
  refine mW_iconst (v := 2) dX11_init_414 (by decide) ?_
  refine mW_newI (N := 2) (kc2 := 1) (ks2 := 3) dX11_init_415 u148 (by decide) rfl (by decide) rfl rfl ?_
  refine mW_ws (st2 := [.ref (b + 20), .ref b]) (w2 := wR b qX11_init_85 w) rfl R_N ?_
  refine mW_putF (ty := .array .int) (w2 := sfr (wR b qX11_init_85 w) b 34 (some (b + 20))) dX11_init_417 p_X11_77 rfl (R_k (o := 0) (x := (11, 0)) (by decide +kernel) (by decide +kernel)) (Nat.le_of_ble_eq_true rfl) (by first | rfl | decide | (repeat' split) <;> rfl) rfl (hN_sfr _ _ _ _) (hk_sfr _ _ _ _) (mE_sfr (R_k (o := 0) (x := (11, 0)) (by decide +kernel) (by decide +kernel)) (by decide) (ob_11_34 _ _ _)) ?_
  refine mW_ws (st2 := []) (w2 := wR b qX11_init_86 w) rfl (R_R (o := 0) (by decide +kernel)) ?_
  refine mW_aload_n (j := 0) dX11_init_420 rfl rfl ?_
  refine mW_iconst (v := 3) dX11_init_421 (by decide) ?_
  refine mW_newI (N := 3) (kc2 := 0) (ks2 := 0) dX11_init_422 u148 (by decide) rfl (by decide) rfl rfl ?_
  refine mW_ws (st2 := [.ref (b + 21), .ref b]) (w2 := wR b qX11_init_87 w) rfl R_N ?_
  refine mW_putF (ty := .array .int) (w2 := sfr (wR b qX11_init_87 w) b 35 (some (b + 21))) dX11_init_424 p_X11_80 rfl (R_k (o := 0) (x := (11, 0)) (by decide +kernel) (by decide +kernel)) (Nat.le_of_ble_eq_true rfl) (by first | rfl | decide | (repeat' split) <;> rfl) rfl (hN_sfr _ _ _ _) (hk_sfr _ _ _ _) (mE_sfr (R_k (o := 0) (x := (11, 0)) (by decide +kernel) (by decide +kernel)) (by decide) (ob_11_35 _ _ _)) ?_
  refine mW_ws (st2 := []) (w2 := wR b qX11_init_88 w) rfl (R_R (o := 0) (by decide +kernel)) ?_
  refine mW_iconst (v := 0) dX11_init_427 (by decide) ?_
  refine mW_istore_n (lv2 := [(1, .int 0), (0, .ref b)]) dX11_init_428 rfl (by decide) rfl ?_
  refine mW_iload_n (j := 0) dX11_init_429 rfl rfl ?_
  refine mW_bipush (v := 15) dX11_init_430 (by decide) ?_
  refine mW_icmp_ge (tgt := 453) dX11_init_432 (by decide) (fun c => absurd c (by decide)) (fun _ => ?_)
  refine mW_aload_n (j := 1) dX11_init_435 rfl rfl ?_
  refine mW_getR dX11_init_436 f_X11_13 (R_k (o := 0) (x := (11, 0)) (by decide +kernel) (by decide +kernel)) rfl (R_r (o := 0) (k := 1) (t := 1) (by decide +kernel) (by decide +kernel)) ?_
  refine mW_iload_n (j := 0) dX11_init_439 rfl rfl ?_
  refine mW_aload_n (j := 1) dX11_init_440 rfl rfl ?_
  refine mW_getR dX11_init_441 f_X11_24 (R_k (o := 0) (x := (11, 0)) (by decide +kernel) (by decide +kernel)) rfl (R_r (o := 0) (k := 4) (t := 4) (by decide +kernel) (by decide +kernel)) ?_
  refine mW_iload_n (j := 0) dX11_init_444 rfl rfl ?_
  refine mW_ialdJ (j := 0) dX11_init_445 (R_k (o := 4) (x := (16, 15)) (by decide +kernel) (by decide +kernel)) (by unfold vp_in; decide) rfl ?_
  refine mW_ws (st2 := [.int 64, .int 0, .ref (b + 1)]) (congrArg (fun x => Value.int x :: [.int 0, .ref (b + 1)]) (R_a (o := 4) (k := 0) (v := 64) (by decide +kernel) (by decide +kernel))) rfl ?_
  refine mW_iastJ (j := 0) dX11_init_446 (R_k (o := 1) (x := (16, 624)) (by decide +kernel) (by decide +kernel)) (by unfold vp_in; decide) rfl ?_
  refine mW_ws (st2 := []) (w2 := wR b qX11_init_89 w) rfl (R_A (by decide +kernel)) ?_
  refine mW_iinc (j := 0) (v := 1) (lv2 := [(1, .int 1), (0, .ref b)]) dX11_init_447 rfl (by decide) (by decide) rfl ?_
  refine mW_goto (tgt := 429) dX11_init_450 (by decide) ?_
  refine mW_iload_n (j := 0) dX11_init_429 rfl rfl ?_
  refine mW_bipush (v := 15) dX11_init_430 (by decide) ?_
  refine mW_icmp_ge (tgt := 453) dX11_init_432 (by decide) (fun c => absurd c (by decide)) (fun _ => ?_)
  refine mW_aload_n (j := 1) dX11_init_435 rfl rfl ?_
  refine mW_getR dX11_init_436 f_X11_13 (R_k (o := 0) (x := (11, 0)) (by decide +kernel) (by decide +kernel)) rfl (R_r (o := 0) (k := 1) (t := 1) (by decide +kernel) (by decide +kernel)) ?_
  refine mW_iload_n (j := 0) dX11_init_439 rfl rfl ?_
  refine mW_aload_n (j := 1) dX11_init_440 rfl rfl ?_
  refine mW_getR dX11_init_441 f_X11_24 (R_k (o := 0) (x := (11, 0)) (by decide +kernel) (by decide +kernel)) rfl (R_r (o := 0) (k := 4) (t := 4) (by decide +kernel) (by decide +kernel)) ?_
  refine mW_iload_n (j := 0) dX11_init_444 rfl rfl ?_
  refine mW_ialdJ (j := 1) dX11_init_445 (R_k (o := 4) (x := (16, 15)) (by decide +kernel) (by decide +kernel)) (by unfold vp_in; decide) rfl ?_
  refine mW_ws (st2 := [.int 0, .int 1, .ref (b + 1)]) (congrArg (fun x => Value.int x :: [.int 1, .ref (b + 1)]) (R_a (o := 4) (k := 1) (v := 0) (by decide +kernel) (by decide +kernel))) rfl ?_
  refine mW_iastJ (j := 1) dX11_init_446 (R_k (o := 1) (x := (16, 624)) (by decide +kernel) (by decide +kernel)) (by unfold vp_in; decide) rfl ?_
  refine mW_ws (st2 := []) (w2 := wR b qX11_init_90 w) rfl (R_A (by decide +kernel)) ?_
  refine mW_iinc (j := 0) (v := 2) (lv2 := [(1, .int 2), (0, .ref b)]) dX11_init_447 rfl (by decide) (by decide) rfl ?_
  refine mW_goto (tgt := 429) dX11_init_450 (by decide) ?_
  refine mW_iload_n (j := 0) dX11_init_429 rfl rfl ?_
  refine mW_bipush (v := 15) dX11_init_430 (by decide) ?_
  refine mW_icmp_ge (tgt := 453) dX11_init_432 (by decide) (fun c => absurd c (by decide)) (fun _ => ?_)
  refine mW_aload_n (j := 1) dX11_init_435 rfl rfl ?_
  refine mW_getR dX11_init_436 f_X11_13 (R_k (o := 0) (x := (11, 0)) (by decide +kernel) (by decide +kernel)) rfl (R_r (o := 0) (k := 1) (t := 1) (by decide +kernel) (by decide +kernel)) ?_
  refine mW_iload_n (j := 0) dX11_init_439 rfl rfl ?_
  refine mW_aload_n (j := 1) dX11_init_440 rfl rfl ?_
  refine mW_getR dX11_init_441 f_X11_24 (R_k (o := 0) (x := (11, 0)) (by decide +kernel) (by decide +kernel)) rfl (R_r (o := 0) (k := 4) (t := 4) (by decide +kernel) (by decide +kernel)) ?_
  refine mW_iload_n (j := 0) dX11_init_444 rfl rfl ?_
  refine mW_ialdJ (j := 2) dX11_init_445 (R_k (o := 4) (x := (16, 15)) (by decide +kernel) (by decide +kernel)) (by unfold vp_in; decide) rfl ?_
  refine mW_ws (st2 := [.int 0, .int 2, .ref (b + 1)]) (congrArg (fun x => Value.int x :: [.int 2, .ref (b + 1)]) (R_a (o := 4) (k := 2) (v := 0) (by decide +kernel) (by decide +kernel))) rfl ?_
  refine mW_iastJ (j := 2) dX11_init_446 (R_k (o := 1) (x := (16, 624)) (by decide +kernel) (by decide +kernel)) (by unfold vp_in; decide) rfl ?_
  refine mW_ws (st2 := []) (w2 := wR b qX11_init_91 w) rfl (R_A (by decide +kernel)) ?_
  refine mW_iinc (j := 0) (v := 3) (lv2 := [(1, .int 3), (0, .ref b)]) dX11_init_447 rfl (by decide) (by decide) rfl ?_
  refine mW_goto (tgt := 429) dX11_init_450 (by decide) ?_
  refine mW_iload_n (j := 0) dX11_init_429 rfl rfl ?_
  refine mW_bipush (v := 15) dX11_init_430 (by decide) ?_
  refine mW_icmp_ge (tgt := 453) dX11_init_432 (by decide) (fun c => absurd c (by decide)) (fun _ => ?_)
  refine mW_aload_n (j := 1) dX11_init_435 rfl rfl ?_
  refine mW_getR dX11_init_436 f_X11_13 (R_k (o := 0) (x := (11, 0)) (by decide +kernel) (by decide +kernel)) rfl (R_r (o := 0) (k := 1) (t := 1) (by decide +kernel) (by decide +kernel)) ?_
  refine mW_iload_n (j := 0) dX11_init_439 rfl rfl ?_
  refine mW_aload_n (j := 1) dX11_init_440 rfl rfl ?_
  refine mW_getR dX11_init_441 f_X11_24 (R_k (o := 0) (x := (11, 0)) (by decide +kernel) (by decide +kernel)) rfl (R_r (o := 0) (k := 4) (t := 4) (by decide +kernel) (by decide +kernel)) ?_
  refine mW_iload_n (j := 0) dX11_init_444 rfl rfl ?_
  refine mW_ialdJ (j := 3) dX11_init_445 (R_k (o := 4) (x := (16, 15)) (by decide +kernel) (by decide +kernel)) (by unfold vp_in; decide) rfl ?_
  refine mW_ws (st2 := [.int 400, .int 3, .ref (b + 1)]) (congrArg (fun x => Value.int x :: [.int 3, .ref (b + 1)]) (R_a (o := 4) (k := 3) (v := 400) (by decide +kernel) (by decide +kernel))) rfl ?_
  refine mW_iastJ (j := 3) dX11_init_446 (R_k (o := 1) (x := (16, 624)) (by decide +kernel) (by decide +kernel)) (by unfold vp_in; decide) rfl ?_
  refine mW_ws (st2 := []) (w2 := wR b qX11_init_92 w) rfl (R_A (by decide +kernel)) ?_
  refine mW_iinc (j := 0) (v := 4) (lv2 := [(1, .int 4), (0, .ref b)]) dX11_init_447 rfl (by decide) (by decide) rfl ?_
  refine mW_goto (tgt := 429) dX11_init_450 (by decide) ?_
  refine mW_iload_n (j := 0) dX11_init_429 rfl rfl ?_
  refine mW_bipush (v := 15) dX11_init_430 (by decide) ?_
  refine mW_icmp_ge (tgt := 453) dX11_init_432 (by decide) (fun c => absurd c (by decide)) (fun _ => ?_)
  refine mW_aload_n (j := 1) dX11_init_435 rfl rfl ?_
  refine mW_getR dX11_init_436 f_X11_13 (R_k (o := 0) (x := (11, 0)) (by decide +kernel) (by decide +kernel)) rfl (R_r (o := 0) (k := 1) (t := 1) (by decide +kernel) (by decide +kernel)) ?_
  refine mW_iload_n (j := 0) dX11_init_439 rfl rfl ?_
  refine mW_aload_n (j := 1) dX11_init_440 rfl rfl ?_
  refine mW_getR dX11_init_441 f_X11_24 (R_k (o := 0) (x := (11, 0)) (by decide +kernel) (by decide +kernel)) rfl (R_r (o := 0) (k := 4) (t := 4) (by decide +kernel) (by decide +kernel)) ?_
  refine mW_iload_n (j := 0) dX11_init_444 rfl rfl ?_
  refine mW_ialdJ (j := 4) dX11_init_445 (R_k (o := 4) (x := (16, 15)) (by decide +kernel) (by decide +kernel)) (by unfold vp_in; decide) rfl ?_
  refine mW_ws (st2 := [.int 1000, .int 4, .ref (b + 1)]) (congrArg (fun x => Value.int x :: [.int 4, .ref (b + 1)]) (R_a (o := 4) (k := 4) (v := 1000) (by decide +kernel) (by decide +kernel))) rfl ?_
  refine mW_iastJ (j := 4) dX11_init_446 (R_k (o := 1) (x := (16, 624)) (by decide +kernel) (by decide +kernel)) (by unfold vp_in; decide) rfl ?_
  refine mW_ws (st2 := []) (w2 := wR b qX11_init_93 w) rfl (R_A (by decide +kernel)) ?_
  refine mW_iinc (j := 0) (v := 5) (lv2 := [(1, .int 5), (0, .ref b)]) dX11_init_447 rfl (by decide) (by decide) rfl ?_
  refine mW_goto (tgt := 429) dX11_init_450 (by decide) ?_
  refine mW_iload_n (j := 0) dX11_init_429 rfl rfl ?_
  refine mW_bipush (v := 15) dX11_init_430 (by decide) ?_
  refine mW_icmp_ge (tgt := 453) dX11_init_432 (by decide) (fun c => absurd c (by decide)) (fun _ => ?_)
  refine mW_aload_n (j := 1) dX11_init_435 rfl rfl ?_
  refine mW_getR dX11_init_436 f_X11_13 (R_k (o := 0) (x := (11, 0)) (by decide +kernel) (by decide +kernel)) rfl (R_r (o := 0) (k := 1) (t := 1) (by decide +kernel) (by decide +kernel)) ?_
  refine mW_iload_n (j := 0) dX11_init_439 rfl rfl ?_
  refine mW_aload_n (j := 1) dX11_init_440 rfl rfl ?_
  refine mW_getR dX11_init_441 f_X11_24 (R_k (o := 0) (x := (11, 0)) (by decide +kernel) (by decide +kernel)) rfl (R_r (o := 0) (k := 4) (t := 4) (by decide +kernel) (by decide +kernel)) ?_
  refine mW_iload_n (j := 0) dX11_init_444 rfl rfl ?_
  refine mW_ialdJ (j := 5) dX11_init_445 (R_k (o := 4) (x := (16, 15)) (by decide +kernel) (by decide +kernel)) (by unfold vp_in; decide) rfl ?_
  refine mW_ws (st2 := [.int 1, .int 5, .ref (b + 1)]) (congrArg (fun x => Value.int x :: [.int 5, .ref (b + 1)]) (R_a (o := 4) (k := 5) (v := 1) (by decide +kernel) (by decide +kernel))) rfl ?_
  refine mW_iastJ (j := 5) dX11_init_446 (R_k (o := 1) (x := (16, 624)) (by decide +kernel) (by decide +kernel)) (by unfold vp_in; decide) rfl ?_
  refine mW_ws (st2 := []) (w2 := wR b qX11_init_94 w) rfl (R_A (by decide +kernel)) ?_
  refine mW_iinc (j := 0) (v := 6) (lv2 := [(1, .int 6), (0, .ref b)]) dX11_init_447 rfl (by decide) (by decide) rfl ?_
  refine mW_goto (tgt := 429) dX11_init_450 (by decide) ?_
  refine mW_iload_n (j := 0) dX11_init_429 rfl rfl ?_
  refine mW_bipush (v := 15) dX11_init_430 (by decide) ?_
  refine mW_icmp_ge (tgt := 453) dX11_init_432 (by decide) (fun c => absurd c (by decide)) (fun _ => ?_)
  refine mW_aload_n (j := 1) dX11_init_435 rfl rfl ?_
  refine mW_getR dX11_init_436 f_X11_13 (R_k (o := 0) (x := (11, 0)) (by decide +kernel) (by decide +kernel)) rfl (R_r (o := 0) (k := 1) (t := 1) (by decide +kernel) (by decide +kernel)) ?_
  refine mW_iload_n (j := 0) dX11_init_439 rfl rfl ?_
  refine mW_aload_n (j := 1) dX11_init_440 rfl rfl ?_
  refine mW_getR dX11_init_441 f_X11_24 (R_k (o := 0) (x := (11, 0)) (by decide +kernel) (by decide +kernel)) rfl (R_r (o := 0) (k := 4) (t := 4) (by decide +kernel) (by decide +kernel)) ?_
  refine mW_iload_n (j := 0) dX11_init_444 rfl rfl ?_
  refine mW_ialdJ (j := 6) dX11_init_445 (R_k (o := 4) (x := (16, 15)) (by decide +kernel) (by decide +kernel)) (by unfold vp_in; decide) rfl ?_
  refine mW_ws (st2 := [.int 0, .int 6, .ref (b + 1)]) (congrArg (fun x => Value.int x :: [.int 6, .ref (b + 1)]) (R_a (o := 4) (k := 6) (v := 0) (by decide +kernel) (by decide +kernel))) rfl ?_
  refine mW_iastJ (j := 6) dX11_init_446 (R_k (o := 1) (x := (16, 624)) (by decide +kernel) (by decide +kernel)) (by unfold vp_in; decide) rfl ?_
  refine mW_ws (st2 := []) (w2 := wR b qX11_init_95 w) rfl (R_A (by decide +kernel)) ?_
  refine mW_iinc (j := 0) (v := 7) (lv2 := [(1, .int 7), (0, .ref b)]) dX11_init_447 rfl (by decide) (by decide) rfl ?_
  refine mW_goto (tgt := 429) dX11_init_450 (by decide) ?_
  refine mW_iload_n (j := 0) dX11_init_429 rfl rfl ?_
  refine mW_bipush (v := 15) dX11_init_430 (by decide) ?_
  refine mW_icmp_ge (tgt := 453) dX11_init_432 (by decide) (fun c => absurd c (by decide)) (fun _ => ?_)
  refine mW_aload_n (j := 1) dX11_init_435 rfl rfl ?_
  refine mW_getR dX11_init_436 f_X11_13 (R_k (o := 0) (x := (11, 0)) (by decide +kernel) (by decide +kernel)) rfl (R_r (o := 0) (k := 1) (t := 1) (by decide +kernel) (by decide +kernel)) ?_
  refine mW_iload_n (j := 0) dX11_init_439 rfl rfl ?_
  refine mW_aload_n (j := 1) dX11_init_440 rfl rfl ?_
  refine mW_getR dX11_init_441 f_X11_24 (R_k (o := 0) (x := (11, 0)) (by decide +kernel) (by decide +kernel)) rfl (R_r (o := 0) (k := 4) (t := 4) (by decide +kernel) (by decide +kernel)) ?_
  refine mW_iload_n (j := 0) dX11_init_444 rfl rfl ?_
  refine mW_ialdJ (j := 7) dX11_init_445 (R_k (o := 4) (x := (16, 15)) (by decide +kernel) (by decide +kernel)) (by unfold vp_in; decide) rfl ?_
  refine mW_ws (st2 := [.int 0, .int 7, .ref (b + 1)]) (congrArg (fun x => Value.int x :: [.int 7, .ref (b + 1)]) (R_a (o := 4) (k := 7) (v := 0) (by decide +kernel) (by decide +kernel))) rfl ?_
  refine mW_iastJ (j := 7) dX11_init_446 (R_k (o := 1) (x := (16, 624)) (by decide +kernel) (by decide +kernel)) (by unfold vp_in; decide) rfl ?_
  refine mW_ws (st2 := []) (w2 := wR b qX11_init_96 w) rfl (R_A (by decide +kernel)) ?_
  refine mW_iinc (j := 0) (v := 8) (lv2 := [(1, .int 8), (0, .ref b)]) dX11_init_447 rfl (by decide) (by decide) rfl ?_
  refine mW_goto (tgt := 429) dX11_init_450 (by decide) ?_
  refine mW_iload_n (j := 0) dX11_init_429 rfl rfl ?_
  refine mW_bipush (v := 15) dX11_init_430 (by decide) ?_
  refine mW_icmp_ge (tgt := 453) dX11_init_432 (by decide) (fun c => absurd c (by decide)) (fun _ => ?_)
  refine mW_aload_n (j := 1) dX11_init_435 rfl rfl ?_
  refine mW_getR dX11_init_436 f_X11_13 (R_k (o := 0) (x := (11, 0)) (by decide +kernel) (by decide +kernel)) rfl (R_r (o := 0) (k := 1) (t := 1) (by decide +kernel) (by decide +kernel)) ?_
  refine mW_iload_n (j := 0) dX11_init_439 rfl rfl ?_
  refine mW_aload_n (j := 1) dX11_init_440 rfl rfl ?_
  refine mW_getR dX11_init_441 f_X11_24 (R_k (o := 0) (x := (11, 0)) (by decide +kernel) (by decide +kernel)) rfl (R_r (o := 0) (k := 4) (t := 4) (by decide +kernel) (by decide +kernel)) ?_
  refine mW_iload_n (j := 0) dX11_init_444 rfl rfl ?_
  refine mW_ialdJ (j := 8) dX11_init_445 (R_k (o := 4) (x := (16, 15)) (by decide +kernel) (by decide +kernel)) (by unfold vp_in; decide) rfl ?_
  refine mW_ws (st2 := [.int 10000, .int 8, .ref (b + 1)]) (congrArg (fun x => Value.int x :: [.int 8, .ref (b + 1)]) (R_a (o := 4) (k := 8) (v := 10000) (by decide +kernel) (by decide +kernel))) rfl ?_
  refine mW_iastJ (j := 8) dX11_init_446 (R_k (o := 1) (x := (16, 624)) (by decide +kernel) (by decide +kernel)) (by unfold vp_in; decide) rfl ?_
  refine mW_ws (st2 := []) (w2 := wR b qX11_init_97 w) rfl (R_A (by decide +kernel)) ?_
  refine mW_iinc (j := 0) (v := 9) (lv2 := [(1, .int 9), (0, .ref b)]) dX11_init_447 rfl (by decide) (by decide) rfl ?_
  refine mW_goto (tgt := 429) dX11_init_450 (by decide) ?_
  refine mW_iload_n (j := 0) dX11_init_429 rfl rfl ?_
  refine mW_bipush (v := 15) dX11_init_430 (by decide) ?_
  refine mW_icmp_ge (tgt := 453) dX11_init_432 (by decide) (fun c => absurd c (by decide)) (fun _ => ?_)
  refine mW_aload_n (j := 1) dX11_init_435 rfl rfl ?_
  refine mW_getR dX11_init_436 f_X11_13 (R_k (o := 0) (x := (11, 0)) (by decide +kernel) (by decide +kernel)) rfl (R_r (o := 0) (k := 1) (t := 1) (by decide +kernel) (by decide +kernel)) ?_
  refine mW_iload_n (j := 0) dX11_init_439 rfl rfl ?_
  refine mW_aload_n (j := 1) dX11_init_440 rfl rfl ?_
  refine mW_getR dX11_init_441 f_X11_24 (R_k (o := 0) (x := (11, 0)) (by decide +kernel) (by decide +kernel)) rfl (R_r (o := 0) (k := 4) (t := 4) (by decide +kernel) (by decide +kernel)) ?_
  refine mW_iload_n (j := 0) dX11_init_444 rfl rfl ?_
  refine mW_ialdJ (j := 9) dX11_init_445 (R_k (o := 4) (x := (16, 15)) (by decide +kernel) (by decide +kernel)) (by unfold vp_in; decide) rfl ?_
  refine mW_ws (st2 := [.int 16, .int 9, .ref (b + 1)]) (congrArg (fun x => Value.int x :: [.int 9, .ref (b + 1)]) (R_a (o := 4) (k := 9) (v := 16) (by decide +kernel) (by decide +kernel))) rfl ?_
  refine mW_iastJ (j := 9) dX11_init_446 (R_k (o := 1) (x := (16, 624)) (by decide +kernel) (by decide +kernel)) (by unfold vp_in; decide) rfl ?_
  refine mW_ws (st2 := []) (w2 := wR b qX11_init_98 w) rfl (R_A (by decide +kernel)) ?_
  refine mW_iinc (j := 0) (v := 10) (lv2 := [(1, .int 10), (0, .ref b)]) dX11_init_447 rfl (by decide) (by decide) rfl ?_
  refine mW_goto (tgt := 429) dX11_init_450 (by decide) ?_
  refine mW_iload_n (j := 0) dX11_init_429 rfl rfl ?_
  refine mW_bipush (v := 15) dX11_init_430 (by decide) ?_
  refine mW_icmp_ge (tgt := 453) dX11_init_432 (by decide) (fun c => absurd c (by decide)) (fun _ => ?_)
  refine mW_aload_n (j := 1) dX11_init_435 rfl rfl ?_
  refine mW_getR dX11_init_436 f_X11_13 (R_k (o := 0) (x := (11, 0)) (by decide +kernel) (by decide +kernel)) rfl (R_r (o := 0) (k := 1) (t := 1) (by decide +kernel) (by decide +kernel)) ?_
  refine mW_iload_n (j := 0) dX11_init_439 rfl rfl ?_
  refine mW_aload_n (j := 1) dX11_init_440 rfl rfl ?_
  refine mW_getR dX11_init_441 f_X11_24 (R_k (o := 0) (x := (11, 0)) (by decide +kernel) (by decide +kernel)) rfl (R_r (o := 0) (k := 4) (t := 4) (by decide +kernel) (by decide +kernel)) ?_
  refine mW_iload_n (j := 0) dX11_init_444 rfl rfl ?_
  refine mW_ialdJ (j := 10) dX11_init_445 (R_k (o := 4) (x := (16, 15)) (by decide +kernel) (by decide +kernel)) (by unfold vp_in; decide) rfl ?_
  refine mW_ws (st2 := [.int 0, .int 10, .ref (b + 1)]) (congrArg (fun x => Value.int x :: [.int 10, .ref (b + 1)]) (R_a (o := 4) (k := 10) (v := 0) (by decide +kernel) (by decide +kernel))) rfl ?_
  refine mW_iastJ (j := 10) dX11_init_446 (R_k (o := 1) (x := (16, 624)) (by decide +kernel) (by decide +kernel)) (by unfold vp_in; decide) rfl ?_
  refine mW_ws (st2 := []) (w2 := wR b qX11_init_99 w) rfl (R_A (by decide +kernel)) ?_
  refine mW_iinc (j := 0) (v := 11) (lv2 := [(1, .int 11), (0, .ref b)]) dX11_init_447 rfl (by decide) (by decide) rfl ?_
  refine mW_goto (tgt := 429) dX11_init_450 (by decide) ?_
  refine mW_iload_n (j := 0) dX11_init_429 rfl rfl ?_
  refine mW_bipush (v := 15) dX11_init_430 (by decide) ?_
  refine mW_icmp_ge (tgt := 453) dX11_init_432 (by decide) (fun c => absurd c (by decide)) (fun _ => ?_)
  refine mW_aload_n (j := 1) dX11_init_435 rfl rfl ?_
  refine mW_getR dX11_init_436 f_X11_13 (R_k (o := 0) (x := (11, 0)) (by decide +kernel) (by decide +kernel)) rfl (R_r (o := 0) (k := 1) (t := 1) (by decide +kernel) (by decide +kernel)) ?_
  refine mW_iload_n (j := 0) dX11_init_439 rfl rfl ?_
  refine mW_aload_n (j := 1) dX11_init_440 rfl rfl ?_
  refine mW_getR dX11_init_441 f_X11_24 (R_k (o := 0) (x := (11, 0)) (by decide +kernel) (by decide +kernel)) rfl (R_r (o := 0) (k := 4) (t := 4) (by decide +kernel) (by decide +kernel)) ?_
  refine mW_iload_n (j := 0) dX11_init_444 rfl rfl ?_
  refine mW_ialdJ (j := 11) dX11_init_445 (R_k (o := 4) (x := (16, 15)) (by decide +kernel) (by decide +kernel)) (by unfold vp_in; decide) rfl ?_
  refine mW_ws (st2 := [.int 50, .int 11, .ref (b + 1)]) (congrArg (fun x => Value.int x :: [.int 11, .ref (b + 1)]) (R_a (o := 4) (k := 11) (v := 50) (by decide +kernel) (by decide +kernel))) rfl ?_
  refine mW_iastJ (j := 11) dX11_init_446 (R_k (o := 1) (x := (16, 624)) (by decide +kernel) (by decide +kernel)) (by unfold vp_in; decide) rfl ?_
  refine mW_ws (st2 := []) (w2 := wR b qX11_init_100 w) rfl (R_A (by decide +kernel)) ?_
  refine mW_iinc (j := 0) (v := 12) (lv2 := [(1, .int 12), (0, .ref b)]) dX11_init_447 rfl (by decide) (by decide) rfl ?_
  refine mW_goto (tgt := 429) dX11_init_450 (by decide) ?_
  refine mW_iload_n (j := 0) dX11_init_429 rfl rfl ?_
  refine mW_bipush (v := 15) dX11_init_430 (by decide) ?_
  refine mW_icmp_ge (tgt := 453) dX11_init_432 (by decide) (fun c => absurd c (by decide)) (fun _ => ?_)
  refine mW_aload_n (j := 1) dX11_init_435 rfl rfl ?_
  refine mW_getR dX11_init_436 f_X11_13 (R_k (o := 0) (x := (11, 0)) (by decide +kernel) (by decide +kernel)) rfl (R_r (o := 0) (k := 1) (t := 1) (by decide +kernel) (by decide +kernel)) ?_
  refine mW_iload_n (j := 0) dX11_init_439 rfl rfl ?_
  refine mW_aload_n (j := 1) dX11_init_440 rfl rfl ?_
  refine mW_getR dX11_init_441 f_X11_24 (R_k (o := 0) (x := (11, 0)) (by decide +kernel) (by decide +kernel)) rfl (R_r (o := 0) (k := 4) (t := 4) (by decide +kernel) (by decide +kernel)) ?_
  refine mW_iload_n (j := 0) dX11_init_444 rfl rfl ?_
  refine mW_ialdJ (j := 12) dX11_init_445 (R_k (o := 4) (x := (16, 15)) (by decide +kernel) (by decide +kernel)) (by unfold vp_in; decide) rfl ?_
  refine mW_ws (st2 := [.int 500, .int 12, .ref (b + 1)]) (congrArg (fun x => Value.int x :: [.int 12, .ref (b + 1)]) (R_a (o := 4) (k := 12) (v := 500) (by decide +kernel) (by decide +kernel))) rfl ?_
  refine mW_iastJ (j := 12) dX11_init_446 (R_k (o := 1) (x := (16, 624)) (by decide +kernel) (by decide +kernel)) (by unfold vp_in; decide) rfl ?_
  refine mW_ws (st2 := []) (w2 := wR b qX11_init_101 w) rfl (R_A (by decide +kernel)) ?_
  refine mW_iinc (j := 0) (v := 13) (lv2 := [(1, .int 13), (0, .ref b)]) dX11_init_447 rfl (by decide) (by decide) rfl ?_
  refine mW_goto (tgt := 429) dX11_init_450 (by decide) ?_
  refine mW_iload_n (j := 0) dX11_init_429 rfl rfl ?_
  refine mW_bipush (v := 15) dX11_init_430 (by decide) ?_
  refine mW_icmp_ge (tgt := 453) dX11_init_432 (by decide) (fun c => absurd c (by decide)) (fun _ => ?_)
  refine mW_aload_n (j := 1) dX11_init_435 rfl rfl ?_
  refine mW_getR dX11_init_436 f_X11_13 (R_k (o := 0) (x := (11, 0)) (by decide +kernel) (by decide +kernel)) rfl (R_r (o := 0) (k := 1) (t := 1) (by decide +kernel) (by decide +kernel)) ?_
  refine mW_iload_n (j := 0) dX11_init_439 rfl rfl ?_
  refine mW_aload_n (j := 1) dX11_init_440 rfl rfl ?_
  refine mW_getR dX11_init_441 f_X11_24 (R_k (o := 0) (x := (11, 0)) (by decide +kernel) (by decide +kernel)) rfl (R_r (o := 0) (k := 4) (t := 4) (by decide +kernel) (by decide +kernel)) ?_
  refine mW_iload_n (j := 0) dX11_init_444 rfl rfl ?_
  refine mW_ialdJ (j := 13) dX11_init_445 (R_k (o := 4) (x := (16, 15)) (by decide +kernel) (by decide +kernel)) (by unfold vp_in; decide) rfl ?_
  refine mW_ws (st2 := [.int 60, .int 13, .ref (b + 1)]) (congrArg (fun x => Value.int x :: [.int 13, .ref (b + 1)]) (R_a (o := 4) (k := 13) (v := 60) (by decide +kernel) (by decide +kernel))) rfl ?_
  refine mW_iastJ (j := 13) dX11_init_446 (R_k (o := 1) (x := (16, 624)) (by decide +kernel) (by decide +kernel)) (by unfold vp_in; decide) rfl ?_
  refine mW_ws (st2 := []) (w2 := wR b qX11_init_102 w) rfl (R_A (by decide +kernel)) ?_
  refine mW_iinc (j := 0) (v := 14) (lv2 := [(1, .int 14), (0, .ref b)]) dX11_init_447 rfl (by decide) (by decide) rfl ?_
  refine mW_goto (tgt := 429) dX11_init_450 (by decide) ?_
  refine mW_iload_n (j := 0) dX11_init_429 rfl rfl ?_
  refine mW_bipush (v := 15) dX11_init_430 (by decide) ?_
  refine mW_icmp_ge (tgt := 453) dX11_init_432 (by decide) (fun c => absurd c (by decide)) (fun _ => ?_)
  refine mW_aload_n (j := 1) dX11_init_435 rfl rfl ?_
  refine mW_getR dX11_init_436 f_X11_13 (R_k (o := 0) (x := (11, 0)) (by decide +kernel) (by decide +kernel)) rfl (R_r (o := 0) (k := 1) (t := 1) (by decide +kernel) (by decide +kernel)) ?_
  refine mW_iload_n (j := 0) dX11_init_439 rfl rfl ?_
  refine mW_aload_n (j := 1) dX11_init_440 rfl rfl ?_
  refine mW_getR dX11_init_441 f_X11_24 (R_k (o := 0) (x := (11, 0)) (by decide +kernel) (by decide +kernel)) rfl (R_r (o := 0) (k := 4) (t := 4) (by decide +kernel) (by decide +kernel)) ?_
  refine mW_iload_n (j := 0) dX11_init_444 rfl rfl ?_
  refine mW_ialdJ (j := 14) dX11_init_445 (R_k (o := 4) (x := (16, 15)) (by decide +kernel) (by decide +kernel)) (by unfold vp_in; decide) rfl ?_
  refine mW_ws (st2 := [.int 20, .int 14, .ref (b + 1)]) (congrArg (fun x => Value.int x :: [.int 14, .ref (b + 1)]) (R_a (o := 4) (k := 14) (v := 20) (by decide +kernel) (by decide +kernel))) rfl ?_
  refine mW_iastJ (j := 14) dX11_init_446 (R_k (o := 1) (x := (16, 624)) (by decide +kernel) (by decide +kernel)) (by unfold vp_in; decide) rfl ?_
  refine mW_ws (st2 := []) (w2 := wR b qX11_init_103 w) rfl (R_A (by decide +kernel)) ?_
  refine mW_iinc (j := 0) (v := 15) (lv2 := [(1, .int 15), (0, .ref b)]) dX11_init_447 rfl (by decide) (by decide) rfl ?_
  refine mW_goto (tgt := 429) dX11_init_450 (by decide) ?_
  refine mW_iload_n (j := 0) dX11_init_429 rfl rfl ?_
  refine mW_bipush (v := 15) dX11_init_430 (by decide) ?_
  refine mW_icmp_ge (tgt := 453) dX11_init_432 (by decide) (fun _ => ?_) (fun c => absurd (by decide) c)
  refine mW_aload_n (j := 1) dX11_init_453 rfl rfl ?_
  refine mW_getR dX11_init_454 f_X11_13 (R_k (o := 0) (x := (11, 0)) (by decide +kernel) (by decide +kernel)) rfl (R_r (o := 0) (k := 1) (t := 1) (by decide +kernel) (by decide +kernel)) ?_
  refine mW_bipush (v := 15) dX11_init_457 (by decide) ?_
  refine mW_iconst (v := 1) dX11_init_459 (by decide) ?_
  refine mW_iastJ (j := 15) dX11_init_460 (R_k (o := 1) (x := (16, 624)) (by decide +kernel) (by decide +kernel)) (by unfold vp_in; decide) rfl ?_
  refine mW_ws (st2 := []) (w2 := wR b qX11_init_104 w) rfl (R_A (by decide +kernel)) ?_
  refine mW_aload_n (j := 1) dX11_init_461 rfl rfl ?_
  refine mW_getR dX11_init_462 f_X11_13 (R_k (o := 0) (x := (11, 0)) (by decide +kernel) (by decide +kernel)) rfl (R_r (o := 0) (k := 1) (t := 1) (by decide +kernel) (by decide +kernel)) ?_
  refine mW_bipush (v := 16) dX11_init_465 (by decide) ?_
  refine mW_iconst (v := 1) dX11_init_467 (by decide) ?_
  refine mW_iastJ (j := 16) dX11_init_468 (R_k (o := 1) (x := (16, 624)) (by decide +kernel) (by decide +kernel)) (by unfold vp_in; decide) rfl ?_
  refine mW_ws (st2 := []) (w2 := wR b qX11_init_105 w) rfl (R_A (by decide +kernel)) ?_
  refine mW_iconst (v := 0) dX11_init_469 (by decide) ?_
  refine mW_istore_n (lv2 := [(1, .int 0), (0, .ref b)]) dX11_init_470 rfl (by decide) rfl ?_
  refine mW_iload_n (j := 0) dX11_init_471 rfl rfl ?_
  refine mW_iconst (v := 3) dX11_init_472 (by decide) ?_
  refine mW_icmp_ge (tgt := 511) dX11_init_473 (by decide) (fun c => absurd c (by decide)) (fun _ => ?_)
  refine mW_aload_n (j := 1) dX11_init_476 rfl rfl ?_
  refine mW_getR dX11_init_477 f_X11_13 (R_k (o := 0) (x := (11, 0)) (by decide +kernel) (by decide +kernel)) rfl (R_r (o := 0) (k := 1) (t := 1) (by decide +kernel) (by decide +kernel)) ?_
  refine mW_bipush (v := 20) dX11_init_480 (by decide) ?_
  refine mW_iconst (v := 3) dX11_init_482 (by decide) ?_
  refine mW_iload_n (j := 0) dX11_init_483 rfl rfl ?_
  refine mW_imulL (v := 0) dX11_init_484 (by decide) ?_
  refine mW_iaddL (v := 20) dX11_init_485 (by decide) ?_
  refine mW_iconst (v := 1) dX11_init_486 (by decide) ?_
  refine mW_iaddL (v := 21) dX11_init_487 (by decide) ?_
  refine mW_bipush (v := 32) dX11_init_488 (by decide) ?_
  refine mW_iastJ (j := 21) dX11_init_490 (R_k (o := 1) (x := (16, 624)) (by decide +kernel) (by decide +kernel)) (by unfold vp_in; decide) rfl ?_
  refine mW_ws (st2 := []) (w2 := wR b qX11_init_106 w) rfl (R_A (by decide +kernel)) ?_
  refine mW_aload_n (j := 1) dX11_init_491 rfl rfl ?_
  refine mW_getR dX11_init_492 f_X11_13 (R_k (o := 0) (x := (11, 0)) (by decide +kernel) (by decide +kernel)) rfl (R_r (o := 0) (k := 1) (t := 1) (by decide +kernel) (by decide +kernel)) ?_
  refine mW_bipush (v := 20) dX11_init_495 (by decide) ?_
  refine mW_iconst (v := 3) dX11_init_497 (by decide) ?_
  refine mW_iload_n (j := 0) dX11_init_498 rfl rfl ?_
  refine mW_imulL (v := 0) dX11_init_499 (by decide) ?_
  refine mW_iaddL (v := 20) dX11_init_500 (by decide) ?_
  refine mW_iconst (v := 2) dX11_init_501 (by decide) ?_
  refine mW_iaddL (v := 22) dX11_init_502 (by decide) ?_
  refine mW_iconst (v := 3) dX11_init_503 (by decide) ?_
  refine mW_iastJ (j := 22) dX11_init_504 (R_k (o := 1) (x := (16, 624)) (by decide +kernel) (by decide +kernel)) (by unfold vp_in; decide) rfl ?_
  refine mW_ws (st2 := []) (w2 := wR b qX11_init_107 w) rfl (R_A (by decide +kernel)) ?_
  refine mW_iinc (j := 0) (v := 1) (lv2 := [(1, .int 1), (0, .ref b)]) dX11_init_505 rfl (by decide) (by decide) rfl ?_
  refine mW_goto (tgt := 471) dX11_init_508 (by decide) ?_
  refine mW_iload_n (j := 0) dX11_init_471 rfl rfl ?_
  refine mW_iconst (v := 3) dX11_init_472 (by decide) ?_
  refine mW_icmp_ge (tgt := 511) dX11_init_473 (by decide) (fun c => absurd c (by decide)) (fun _ => ?_)
  refine mW_aload_n (j := 1) dX11_init_476 rfl rfl ?_
  refine mW_getR dX11_init_477 f_X11_13 (R_k (o := 0) (x := (11, 0)) (by decide +kernel) (by decide +kernel)) rfl (R_r (o := 0) (k := 1) (t := 1) (by decide +kernel) (by decide +kernel)) ?_
  refine mW_bipush (v := 20) dX11_init_480 (by decide) ?_
  refine mW_iconst (v := 3) dX11_init_482 (by decide) ?_
  refine mW_iload_n (j := 0) dX11_init_483 rfl rfl ?_
  refine mW_imulL (v := 3) dX11_init_484 (by decide) ?_
  refine mW_iaddL (v := 23) dX11_init_485 (by decide) ?_
  refine mW_iconst (v := 1) dX11_init_486 (by decide) ?_
  refine mW_iaddL (v := 24) dX11_init_487 (by decide) ?_
  refine mW_bipush (v := 32) dX11_init_488 (by decide) ?_
  refine mW_iastJ (j := 24) dX11_init_490 (R_k (o := 1) (x := (16, 624)) (by decide +kernel) (by decide +kernel)) (by unfold vp_in; decide) rfl ?_
  refine mW_ws (st2 := []) (w2 := wR b qX11_init_108 w) rfl (R_A (by decide +kernel)) ?_
  refine mW_aload_n (j := 1) dX11_init_491 rfl rfl ?_
  refine mW_getR dX11_init_492 f_X11_13 (R_k (o := 0) (x := (11, 0)) (by decide +kernel) (by decide +kernel)) rfl (R_r (o := 0) (k := 1) (t := 1) (by decide +kernel) (by decide +kernel)) ?_
  refine mW_bipush (v := 20) dX11_init_495 (by decide) ?_
  refine mW_iconst (v := 3) dX11_init_497 (by decide) ?_
  refine mW_iload_n (j := 0) dX11_init_498 rfl rfl ?_
  refine mW_imulL (v := 3) dX11_init_499 (by decide) ?_
  refine mW_iaddL (v := 23) dX11_init_500 (by decide) ?_
  refine mW_iconst (v := 2) dX11_init_501 (by decide) ?_
  refine mW_iaddL (v := 25) dX11_init_502 (by decide) ?_
  refine mW_iconst (v := 3) dX11_init_503 (by decide) ?_
  refine mW_iastJ (j := 25) dX11_init_504 (R_k (o := 1) (x := (16, 624)) (by decide +kernel) (by decide +kernel)) (by unfold vp_in; decide) rfl ?_
  refine mW_ws (st2 := []) (w2 := wR b qX11_init_109 w) rfl (R_A (by decide +kernel)) ?_
  refine mW_iinc (j := 0) (v := 2) (lv2 := [(1, .int 2), (0, .ref b)]) dX11_init_505 rfl (by decide) (by decide) rfl ?_
  refine mW_goto (tgt := 471) dX11_init_508 (by decide) ?_
  refine mW_iload_n (j := 0) dX11_init_471 rfl rfl ?_
  refine mW_iconst (v := 3) dX11_init_472 (by decide) ?_
  refine mW_icmp_ge (tgt := 511) dX11_init_473 (by decide) (fun c => absurd c (by decide)) (fun _ => ?_)
  refine mW_aload_n (j := 1) dX11_init_476 rfl rfl ?_
  refine mW_getR dX11_init_477 f_X11_13 (R_k (o := 0) (x := (11, 0)) (by decide +kernel) (by decide +kernel)) rfl (R_r (o := 0) (k := 1) (t := 1) (by decide +kernel) (by decide +kernel)) ?_
  refine mW_bipush (v := 20) dX11_init_480 (by decide) ?_
  refine mW_iconst (v := 3) dX11_init_482 (by decide) ?_
  refine mW_iload_n (j := 0) dX11_init_483 rfl rfl ?_
  refine mW_imulL (v := 6) dX11_init_484 (by decide) ?_
  refine mW_iaddL (v := 26) dX11_init_485 (by decide) ?_
  refine mW_iconst (v := 1) dX11_init_486 (by decide) ?_
  refine mW_iaddL (v := 27) dX11_init_487 (by decide) ?_
  refine mW_bipush (v := 32) dX11_init_488 (by decide) ?_
  refine mW_iastJ (j := 27) dX11_init_490 (R_k (o := 1) (x := (16, 624)) (by decide +kernel) (by decide +kernel)) (by unfold vp_in; decide) rfl ?_
  refine mW_ws (st2 := []) (w2 := wR b qX11_init_110 w) rfl (R_A (by decide +kernel)) ?_
  refine mW_aload_n (j := 1) dX11_init_491 rfl rfl ?_
  refine mW_getR dX11_init_492 f_X11_13 (R_k (o := 0) (x := (11, 0)) (by decide +kernel) (by decide +kernel)) rfl (R_r (o := 0) (k := 1) (t := 1) (by decide +kernel) (by decide +kernel)) ?_
  refine mW_bipush (v := 20) dX11_init_495 (by decide) ?_
  refine mW_iconst (v := 3) dX11_init_497 (by decide) ?_
  refine mW_iload_n (j := 0) dX11_init_498 rfl rfl ?_
  refine mW_imulL (v := 6) dX11_init_499 (by decide) ?_
  refine mW_iaddL (v := 26) dX11_init_500 (by decide) ?_
  refine mW_iconst (v := 2) dX11_init_501 (by decide) ?_
  refine mW_iaddL (v := 28) dX11_init_502 (by decide) ?_
  refine mW_iconst (v := 3) dX11_init_503 (by decide) ?_
  refine mW_iastJ (j := 28) dX11_init_504 (R_k (o := 1) (x := (16, 624)) (by decide +kernel) (by decide +kernel)) (by unfold vp_in; decide) rfl ?_
  refine mW_ws (st2 := []) (w2 := wR b qX11_init_111 w) rfl (R_A (by decide +kernel)) ?_
  refine mW_iinc (j := 0) (v := 3) (lv2 := [(1, .int 3), (0, .ref b)]) dX11_init_505 rfl (by decide) (by decide) rfl ?_
  refine mW_goto (tgt := 471) dX11_init_508 (by decide) ?_
  refine mW_iload_n (j := 0) dX11_init_471 rfl rfl ?_
  refine mW_iconst (v := 3) dX11_init_472 (by decide) ?_
  refine mW_icmp_ge (tgt := 511) dX11_init_473 (by decide) (fun _ => ?_) (fun c => absurd (by decide) c)
  exact mW_vret dX11_init_511 rfl ⟨rfl, rfl⟩
