/-! the reference's load -/
def cntOK (B : Nat → Int32) : Prop := B 40 = nI (nSg B) ∧ nSg B ≤ 8 ∧ B 65 = nI (nPs B) ∧ nPs B ≤ 4
theorem rX11_part' {G : mG} {w : mH} {a0 n : Nat} {lt : Nat → Nat} (z : zRef w a0) (h : rS w a0 lt n) (hpn : rP w a0 ≤ n) (h10 : hfi w a0 10 = -1) (hB : cntOK (hai w (a0 + 6))) : mC G mX11_part 5 0 0 [.ref a0] w (mP none (fun w' => ptO w w' a0 (pPart lt n (rP w a0) (hai w (a0 + 6))) 900)) := rX11_part z h rfl hpn h10 rfl rfl hB.1 hB.2.1 rfl hB.2.2.1 hB.2.2.2
abbrev mX11_load : mM := (yX11_load, cX11_load, 2, (some .int), [])
theorem u1765 : (Cond.code ⟨"LineFollowerBenchModel", "part", "()V"⟩ prog_13_method_31_code 4 (none : Option ClassFile.FieldType) : Cond) ∈ mTs := mTs_in 1765 (by decide +kernel) (by decide +kernel)
theorem co_X11_part : mCode mX11_part := ⟨u1765, u85, by decide⟩
theorem u1762 : (Cond.methodLink "LineFollowerBenchModel" 173 ⟨"LineFollowerBenchModel", "part", "()V"⟩ : Cond) ∈ mTs := mTs_in 1762 (by decide +kernel) (by decide +kernel)
theorem u1764 : (Cond.instanceMethod ⟨"LineFollowerBenchModel", "part", "()V"⟩ : Cond) ∈ mTs := mTs_in 1764 (by decide +kernel) (by decide +kernel)
theorem u46 : (Cond.selects "LineFollowerBenchModel" ⟨"LineFollowerBenchModel", "part", "()V"⟩ ⟨"LineFollowerBenchModel", "part", "()V"⟩ : Cond) ∈ mTs := mTs_in 46 (by decide +kernel) (by decide +kernel)
theorem l_X11_173 : mLinkV "LineFollowerBenchModel" 173 0 mX11_part := ⟨⟨by decide, by decide, by decide +kernel⟩, co_X11_part, u1762, u1764, u46⟩
set_option maxHeartbeats 4000000 in
set_option maxRecDepth 100000 in
theorem gX11_load_0 {G : mG} {w : mH} {Φ : mF} {a0 : Nat} {lt : Nat → Nat} {n c a0_11 n_a0_11 : Nat} (h1 : hk w a0 = (11, 0)) (h2 : hfr w a0 11 = some a0_11) (h3 : hk w a0_11 = (16, n_a0_11)) (s1 : vp_in 40 n_a0_11) (s2 : vp_in 65 n_a0_11) (h4 : zRef w a0) (s3 : ∀ w1 : mH, (w1 = sfi w a0 9 0) → ∀ w2 : mH, (w2 = sfi w1 a0 10 (-1)) → ∀ w3 : mH, (w3 = sfi w2 a0 12 0) → ∀ w4 : mH, (w4 = sai w3 a0_11 40 0) → ∀ w5 : mH, (w5 = sai w4 a0_11 65 0) → rS w5 a0 lt n) (s4 : ∀ w1 : mH, (w1 = sfi w a0 9 0) → ∀ w2 : mH, (w2 = sfi w1 a0 10 (-1)) → ∀ w3 : mH, (w3 = sfi w2 a0 12 0) → ∀ w4 : mH, (w4 = sai w3 a0_11 40 0) → ∀ w5 : mH, (w5 = sai w4 a0_11 65 0) → rP w5 a0 ≤ n) (s5 : ∀ w1 : mH, (w1 = sfi w a0 9 0) → ∀ w2 : mH, (w2 = sfi w1 a0 10 (-1)) → ∀ w3 : mH, (w3 = sfi w2 a0 12 0) → ∀ w4 : mH, (w4 = sai w3 a0_11 40 0) → ∀ w5 : mH, (w5 = sai w4 a0_11 65 0) → hfi w5 a0 10 = -1) (s6 : ∀ w1 : mH, (w1 = sfi w a0 9 0) → ∀ w2 : mH, (w2 = sfi w1 a0 10 (-1)) → ∀ w3 : mH, (w3 = sfi w2 a0 12 0) → ∀ w4 : mH, (w4 = sai w3 a0_11 40 0) → ∀ w5 : mH, (w5 = sai w4 a0_11 65 0) → cntOK (hai w5 (a0 + 6))) (k1 : ∀ w1 : mH, (w1 = sfi w a0 9 0) → ∀ w2 : mH, (w2 = sfi w1 a0 10 (-1)) → ∀ w3 : mH, (w3 = sfi w2 a0 12 0) → ∀ w4 : mH, (w4 = sai w3 a0_11 40 0) → ∀ w5 : mH, (w5 = sai w4 a0_11 65 0) → ∀ w6 : mH, (ptO w5 w6 a0 (pPart lt n (rP w5 a0) (hai w5 (a0 + 6))) 900) → mW G mX11_load 6 0 0 35 [(0, .ref a0)] [] w6 Φ) : mW G mX11_load 6 0 0 0 [(0, .ref a0)] [] w Φ := by
  refine mW_aload_n (j := 0) dX11_load_0 rfl rfl ?_
  refine mW_iconst (v := 0) dX11_load_1 (by decide) ?_
  refine mW_put (ty := .int) (w2 := sfi w a0 9 0) dX11_load_2 p_X11_149 h1 (Nat.le_of_ble_eq_true rfl) (by first | rfl | decide | (repeat' split) <;> rfl) rfl (hN_sfi _ _ _ _) (hk_sfi _ _ _ _) (mE_sfi h1 (by decide) (ob_11_9 _ _ _)) ?_
  refine mW_nm (fun w1 e1 => ?_)
  refine mW_aload_n (j := 0) dX11_load_5 rfl rfl ?_
  refine mW_iconst (v := (-1)) dX11_load_6 (by decide) ?_
  refine mW_put (ty := .int) (w2 := sfi w1 a0 10 (-1)) dX11_load_7 p_X11_30 (s2k (S2_sfi e1) h1) (Nat.le_of_ble_eq_true rfl) (by first | rfl | decide | (repeat' split) <;> rfl) rfl (hN_sfi _ _ _ _) (hk_sfi _ _ _ _) (mE_sfi (s2k (S2_sfi e1) h1) (by decide) (ob_11_10 _ _ _)) ?_
  refine mW_nm (fun w2 e2 => ?_)
  refine mW_aload_n (j := 0) dX11_load_10 rfl rfl ?_
  refine mW_iconst (v := 0) dX11_load_11 (by decide) ?_
  refine mW_put (ty := .int) (w2 := sfi w2 a0 12 0) dX11_load_12 p_X11_170 (s2k (S2_sfi e2) (s2k (S2_sfi e1) h1)) (Nat.le_of_ble_eq_true rfl) (by first | rfl | decide | (repeat' split) <;> rfl) rfl (hN_sfi _ _ _ _) (hk_sfi _ _ _ _) (mE_sfi (s2k (S2_sfi e2) (s2k (S2_sfi e1) h1)) (by decide) (ob_11_12 _ _ _)) ?_
  refine mW_nm (fun w3 e3 => ?_)
  refine mW_aload_n (j := 0) dX11_load_15 rfl rfl ?_
  refine mW_getR dX11_load_16 f_X11_33 (s2k (S2_sfi e3) (s2k (S2_sfi e2) (s2k (S2_sfi e1) h1))) rfl (s2r (S2_sfi e3) (s2r (S2_sfi e2) (s2r (S2_sfi e1) h2))) ?_
  refine mW_bipush (v := 40) dX11_load_19 (by decide) ?_
  refine mW_iconst (v := 0) dX11_load_21 (by decide) ?_
  refine mW_iastJ dX11_load_22 (s2k (S2_sfi e3) (s2k (S2_sfi e2) (s2k (S2_sfi e1) h3))) s1 (j := 40) (by decide) ?_
  refine mW_nm (fun w4 e4 => ?_)
  refine mW_aload_n (j := 0) dX11_load_23 rfl rfl ?_
  refine mW_getR dX11_load_24 f_X11_33 (s2k (S2_sai e4) (s2k (S2_sfi e3) (s2k (S2_sfi e2) (s2k (S2_sfi e1) h1)))) rfl (s2r (S2_sai e4) (s2r (S2_sfi e3) (s2r (S2_sfi e2) (s2r (S2_sfi e1) h2)))) ?_
  refine mW_bipush (v := 65) dX11_load_27 (by decide) ?_
  refine mW_iconst (v := 0) dX11_load_29 (by decide) ?_
  refine mW_iastJ dX11_load_30 (s2k (S2_sai e4) (s2k (S2_sfi e3) (s2k (S2_sfi e2) (s2k (S2_sfi e1) h3)))) s2 (j := 65) (by decide) ?_
  refine mW_nm (fun w5 e5 => ?_)
  refine mW_aload_n (j := 0) dX11_load_31 rfl rfl ?_
  refine mW_callV (As := []) (rest := []) (kc2 := 0) (ks2 := 0) dX11_load_32 l_X11_173 rfl (s2k (S2_sai e5) (s2k (S2_sai e4) (s2k (S2_sfi e3) (s2k (S2_sfi e2) (s2k (S2_sfi e1) h1))))) rfl (by decide) (rX11_part' (w := w5) (a0 := a0) (zRef_s2 (S2_sai e5) (zRef_s2 (S2_sai e4) (zRef_s2 (S2_sfi e3) (zRef_s2 (S2_sfi e2) (zRef_s2 (S2_sfi e1) h4))))) (s3 w1 e1 w2 e2 w3 e3 w4 e4 w5 e5) (s4 w1 e1 w2 e2 w3 e3 w4 e4 w5 e5) (s5 w1 e1 w2 e2 w3 e3 w4 e4 w5 e5) (s6 w1 e1 w2 e2 w3 e3 w4 e4 w5 e5)) (Nat.le_of_ble_eq_true rfl) (by decide) rfl rfl mP_x (mP_k (fun w6 q1 => ?_))
  exact k1 w1 e1 w2 e2 w3 e3 w4 e4 w5 e5 w6 q1
set_option maxHeartbeats 4000000 in
set_option maxRecDepth 100000 in
theorem gX11_load_35 {G : mG} {w : mH} {Φ : mF} {a0 : Nat} {lt : Nat → Nat} {n c : Nat} (h1 : hk w a0 = (11, 0)) (h2 : zRef w a0) (s1 : (¬ (0 ≤ (hfi w a0 10))) → rS w a0 lt n) (s2 : (¬ (0 ≤ (hfi w a0 10))) → ((hI lt n (rP w a0)) = 59) → ∀ w1 : mH, (w1 = sfi w a0 9 ((hfi w a0 9) + 1)) → rS w1 a0 lt n) (s3 : (¬ (0 ≤ (hfi w a0 10))) → ((hI lt n (rP w a0)) = 59) → ∀ w1 : mH, (w1 = sfi w a0 9 ((hfi w a0 9) + 1)) → rP w1 a0 ≤ n) (s4 : (¬ (0 ≤ (hfi w a0 10))) → ((hI lt n (rP w a0)) = 59) → ∀ w1 : mH, (w1 = sfi w a0 9 ((hfi w a0 9) + 1)) → hfi w1 a0 10 = -1) (s5 : (¬ (0 ≤ (hfi w a0 10))) → ((hI lt n (rP w a0)) = 59) → ∀ w1 : mH, (w1 = sfi w a0 9 ((hfi w a0 9) + 1)) → cntOK (hai w1 (a0 + 6))) (k1 : (0 ≤ (hfi w a0 10)) → mW G mX11_load 6 0 0 68 [(0, .ref a0)] [] w Φ) (k2 : (¬ (0 ≤ (hfi w a0 10))) → (¬ ((hI lt n (rP w a0)) = 59)) → mW G mX11_load 6 0 0 68 [(0, .ref a0)] [] w Φ) (k3 : (¬ (0 ≤ (hfi w a0 10))) → ((hI lt n (rP w a0)) = 59) → ∀ w1 : mH, (w1 = sfi w a0 9 ((hfi w a0 9) + 1)) → ∀ w2 : mH, (ptO w1 w2 a0 (pPart lt n (rP w1 a0) (hai w1 (a0 + 6))) 900) → mW G mX11_load 6 0 0 35 [(0, .ref a0)] [] w2 Φ) : mW G mX11_load 6 0 0 35 [(0, .ref a0)] [] w Φ := by
  refine mW_aload_n (j := 0) dX11_load_35 rfl rfl ?_
  refine mW_get dX11_load_36 f_X11_30 h1 rfl ?_
  refine mW_if_ge (tgt := 68) dX11_load_39 (by decide) (fun c1 => ?_) (fun c1 => ?_)
  · exact k1 c1
  · refine mW_aload_n (j := 0) dX11_load_42 rfl rfl ?_
    refine mW_callVe (As := []) (rest := []) (kc2 := 0) (ks2 := 0) dX11_load_43 l_X11_152 rfl h1 rfl (by decide) (qX11_here' (w := w) (a0 := a0) h2 (s1 c1)) (Nat.le_of_ble_eq_true rfl) (by decide) rfl rfl ?_
    refine mW_bipush (v := 59) dX11_load_46 (by decide) ?_
    refine mW_icmp_ne (tgt := 68) dX11_load_48 (by decide) (fun c2 => ?_) (fun c2 => ?_)
    · exact k2 c1 c2
    · refine mW_aload_n (j := 0) dX11_load_51 rfl rfl ?_
      refine mW_dup dX11_load_52 rfl ?_
      refine mW_get dX11_load_53 f_X11_149 h1 rfl ?_
      refine mW_iconst (v := 1) dX11_load_56 (by decide) ?_
      refine mW_iadd dX11_load_57 ?_
      refine mW_put (ty := .int) (w2 := sfi w a0 9 ((hfi w a0 9) + 1)) dX11_load_58 p_X11_149 h1 (Nat.le_of_ble_eq_true rfl) (by first | rfl | decide | (repeat' split) <;> rfl) rfl (hN_sfi _ _ _ _) (hk_sfi _ _ _ _) (mE_sfi h1 (by decide) (ob_11_9 _ _ _)) ?_
      refine mW_nm (fun w1 e1 => ?_)
      refine mW_aload_n (j := 0) dX11_load_61 rfl rfl ?_
      refine mW_callV (As := []) (rest := []) (kc2 := 0) (ks2 := 0) dX11_load_62 l_X11_173 rfl (s2k (S2_sfi e1) h1) rfl (by decide) (rX11_part' (w := w1) (a0 := a0) (zRef_s2 (S2_sfi e1) h2) (s2 c1 c2 w1 e1) (s3 c1 c2 w1 e1) (s4 c1 c2 w1 e1) (s5 c1 c2 w1 e1)) (Nat.le_of_ble_eq_true rfl) (by decide) rfl rfl mP_x (mP_k (fun w2 q1 => ?_))
      refine mW_goto (tgt := 35) dX11_load_65 (by decide) ?_
      exact k3 c1 c2 w1 e1 w2 q1
set_option maxHeartbeats 4000000 in
set_option maxRecDepth 100000 in
theorem gX11_load_68 {G : mG} {w : mH} {Φ : mF} {a0 : Nat} {lt : Nat → Nat} {n c : Nat} (h1 : hk w a0 = (11, 0)) (k1 : (0 ≤ (hfi w a0 10)) → mW G mX11_load 6 0 0 94 [(0, .ref a0)] [] w Φ) (k2 : (¬ (0 ≤ (hfi w a0 10))) → ((hfi w a0 8) ≤ (hfi w a0 9)) → mW G mX11_load 6 0 0 94 [(0, .ref a0)] [] w Φ) (k3 : (¬ (0 ≤ (hfi w a0 10))) → (¬ ((hfi w a0 8) ≤ (hfi w a0 9))) → ∀ w1 : mH, (w1 = sfi w a0 10 (hfi w a0 9)) → mW G mX11_load 6 0 0 94 [(0, .ref a0)] [] w1 Φ) : mW G mX11_load 6 0 0 68 [(0, .ref a0)] [] w Φ := by
  refine mW_aload_n (j := 0) dX11_load_68 rfl rfl ?_
  refine mW_get dX11_load_69 f_X11_30 h1 rfl ?_
  refine mW_if_ge (tgt := 94) dX11_load_72 (by decide) (fun c1 => ?_) (fun c1 => ?_)
  · exact k1 c1
  · refine mW_aload_n (j := 0) dX11_load_75 rfl rfl ?_
    refine mW_get dX11_load_76 f_X11_149 h1 rfl ?_
    refine mW_aload_n (j := 0) dX11_load_79 rfl rfl ?_
    refine mW_get dX11_load_80 f_X11_146 h1 rfl ?_
    refine mW_icmp_ge (tgt := 94) dX11_load_83 (by decide) (fun c2 => ?_) (fun c2 => ?_)
    · exact k2 c1 c2
    · refine mW_aload_n (j := 0) dX11_load_86 rfl rfl ?_
      refine mW_aload_n (j := 0) dX11_load_87 rfl rfl ?_
      refine mW_get dX11_load_88 f_X11_149 h1 rfl ?_
      refine mW_put (ty := .int) (w2 := sfi w a0 10 (hfi w a0 9)) dX11_load_91 p_X11_30 h1 (Nat.le_of_ble_eq_true rfl) (by first | rfl | decide | (repeat' split) <;> rfl) rfl (hN_sfi _ _ _ _) (hk_sfi _ _ _ _) (mE_sfi h1 (by decide) (ob_11_10 _ _ _)) ?_
      refine mW_nm (fun w1 e1 => ?_)
      exact k3 c1 c2 w1 e1
theorem u1681 : (Cond.code ⟨"LineFollowerBenchModel", "keeps", "()V"⟩ prog_13_method_8_code 2 (none : Option ClassFile.FieldType) : Cond) ∈ mTs := mTs_in 1681 (by decide +kernel) (by decide +kernel)
theorem co_X11_keeps : mCode mX11_keeps := ⟨u1681, u85, by decide⟩
theorem u1678 : (Cond.methodLink "LineFollowerBenchModel" 96 ⟨"LineFollowerBenchModel", "keeps", "()V"⟩ : Cond) ∈ mTs := mTs_in 1678 (by decide +kernel) (by decide +kernel)
theorem u1680 : (Cond.instanceMethod ⟨"LineFollowerBenchModel", "keeps", "()V"⟩ : Cond) ∈ mTs := mTs_in 1680 (by decide +kernel) (by decide +kernel)
theorem u37 : (Cond.selects "LineFollowerBenchModel" ⟨"LineFollowerBenchModel", "keeps", "()V"⟩ ⟨"LineFollowerBenchModel", "keeps", "()V"⟩ : Cond) ∈ mTs := mTs_in 37 (by decide +kernel) (by decide +kernel)
theorem l_X11_96 : mLinkV "LineFollowerBenchModel" 96 0 mX11_keeps := ⟨⟨by decide, by decide, by decide +kernel⟩, co_X11_keeps, u1678, u1680, u37⟩
set_option maxHeartbeats 4000000 in
set_option maxRecDepth 100000 in
theorem gX11_load_94 {G : mG} {w : mH} {Φ : mF} {a0 : Nat} {lt : Nat → Nat} {n c : Nat} (h1 : hk w a0 = (11, 0)) (h2 : zRef w a0) (s1 : ∀ w1 : mH, (w1 = sfi w a0 8 0) → ((hfi w1 a0 10) < 0) → ∀ w2 : mH, (w2 = sfi w1 a0 0 0) → ((hfi w2 a0 0) = 0) → hfi w2 a0 5 = nI c) (s2 : ∀ w1 : mH, (w1 = sfi w a0 8 0) → ((hfi w1 a0 10) < 0) → ∀ w2 : mH, (w2 = sfi w1 a0 0 0) → ((hfi w2 a0 0) = 0) → c ≤ 6) (s3 : ∀ w1 : mH, (w1 = sfi w a0 8 0) → (¬ ((hfi w1 a0 10) < 0)) → ∀ w4 : mH, (w4 = sfi w1 a0 0 1) → ((hfi w4 a0 0) = 0) → hfi w4 a0 5 = nI c) (s4 : ∀ w1 : mH, (w1 = sfi w a0 8 0) → (¬ ((hfi w1 a0 10) < 0)) → ∀ w4 : mH, (w4 = sfi w1 a0 0 1) → ((hfi w4 a0 0) = 0) → c ≤ 6) (k1 : ∀ w1 : mH, (w1 = sfi w a0 8 0) → ((hfi w1 a0 10) < 0) → ∀ w2 : mH, (w2 = sfi w1 a0 0 0) → ((hfi w2 a0 0) = 0) → ∀ w3 : mH, (kpO w2 w3 a0 c) → mW G mX11_load 6 0 0 131 [(0, .ref a0), (1, .int 40)] [] w3 Φ) (k2 : ∀ w1 : mH, (w1 = sfi w a0 8 0) → ((hfi w1 a0 10) < 0) → ∀ w2 : mH, (w2 = sfi w1 a0 0 0) → (¬ ((hfi w2 a0 0) = 0)) → Φ (.inl (some (.int 0))) w2) (k3 : ∀ w1 : mH, (w1 = sfi w a0 8 0) → (¬ ((hfi w1 a0 10) < 0)) → ∀ w4 : mH, (w4 = sfi w1 a0 0 1) → ((hfi w4 a0 0) = 0) → ∀ w5 : mH, (kpO w4 w5 a0 c) → mW G mX11_load 6 0 0 131 [(0, .ref a0), (1, .int 40)] [] w5 Φ) (k4 : ∀ w1 : mH, (w1 = sfi w a0 8 0) → (¬ ((hfi w1 a0 10) < 0)) → ∀ w4 : mH, (w4 = sfi w1 a0 0 1) → (¬ ((hfi w4 a0 0) = 0)) → Φ (.inl (some (.int 0))) w4) : mW G mX11_load 6 0 0 94 [(0, .ref a0)] [] w Φ := by
  refine mW_aload_n (j := 0) dX11_load_94 rfl rfl ?_
  refine mW_iconst (v := 0) dX11_load_95 (by decide) ?_
  refine mW_put (ty := .int) (w2 := sfi w a0 8 0) dX11_load_96 p_X11_146 h1 (Nat.le_of_ble_eq_true rfl) (by first | rfl | decide | (repeat' split) <;> rfl) rfl (hN_sfi _ _ _ _) (hk_sfi _ _ _ _) (mE_sfi h1 (by decide) (ob_11_8 _ _ _)) ?_
  refine mW_nm (fun w1 e1 => ?_)
  refine mW_aload_n (j := 0) dX11_load_99 rfl rfl ?_
  refine mW_aload_n (j := 0) dX11_load_100 rfl rfl ?_
  refine mW_get dX11_load_101 f_X11_30 (s2k (S2_sfi e1) h1) rfl ?_
  refine mW_if_lt (tgt := 111) dX11_load_104 (by decide) (fun c1 => ?_) (fun c1 => ?_)
  · refine mW_iconst (v := 0) dX11_load_111 (by decide) ?_
    refine mW_put (ty := .int) (w2 := sfi w1 a0 0 0) dX11_load_112 p_X11_3 (s2k (S2_sfi e1) h1) (Nat.le_of_ble_eq_true rfl) (by first | rfl | decide | (repeat' split) <;> rfl) rfl (hN_sfi _ _ _ _) (hk_sfi _ _ _ _) (mE_sfi (s2k (S2_sfi e1) h1) (by decide) (ob_11_0 _ _ _)) ?_
    refine mW_nm (fun w2 e2 => ?_)
    refine mW_aload_n (j := 0) dX11_load_115 rfl rfl ?_
    refine mW_get dX11_load_116 f_X11_3 (s2k (S2_sfi e2) (s2k (S2_sfi e1) h1)) rfl ?_
    refine mW_if_eq (tgt := 124) dX11_load_119 (by decide) (fun c2 => ?_) (fun c2 => ?_)
    · refine mW_aload_n (j := 0) dX11_load_124 rfl rfl ?_
      refine mW_callV (As := []) (rest := []) (kc2 := 0) (ks2 := 0) dX11_load_125 l_X11_96 rfl (s2k (S2_sfi e2) (s2k (S2_sfi e1) h1)) rfl (by decide) (rX11_keeps (w := w2) (a0 := a0) (zRef_s2 (S2_sfi e2) (zRef_s2 (S2_sfi e1) h2)) (s1 w1 e1 c1 w2 e2 c2) (s2 w1 e1 c1 w2 e2 c2)) (Nat.le_of_ble_eq_true rfl) (by decide) rfl rfl mP_x (mP_k (fun w3 q1 => ?_))
      refine mW_bipush (v := 40) dX11_load_128 (by decide) ?_
      refine mW_istore_n (lv2 := [(1, .int 40), (0, .ref a0)]) dX11_load_130 rfl (by decide) rfl ?_
      refine mW_loc [1, 0] (lv2 := [(0, .ref a0), (1, .int 40)]) rfl ?_
      exact k1 w1 e1 c1 w2 e2 c2 w3 q1
    · refine mW_iconst (v := 0) dX11_load_122 (by decide) ?_
      exact mW_iret dX11_load_123 rfl (k2 w1 e1 c1 w2 e2 c2)
  · refine mW_iconst (v := 1) dX11_load_107 (by decide) ?_
    refine mW_goto (tgt := 112) dX11_load_108 (by decide) ?_
    refine mW_put (ty := .int) (w2 := sfi w1 a0 0 1) dX11_load_112 p_X11_3 (s2k (S2_sfi e1) h1) (Nat.le_of_ble_eq_true rfl) (by first | rfl | decide | (repeat' split) <;> rfl) rfl (hN_sfi _ _ _ _) (hk_sfi _ _ _ _) (mE_sfi (s2k (S2_sfi e1) h1) (by decide) (ob_11_0 _ _ _)) ?_
    refine mW_nm (fun w4 e3 => ?_)
    refine mW_aload_n (j := 0) dX11_load_115 rfl rfl ?_
    refine mW_get dX11_load_116 f_X11_3 (s2k (S2_sfi e3) (s2k (S2_sfi e1) h1)) rfl ?_
    refine mW_if_eq (tgt := 124) dX11_load_119 (by decide) (fun c3 => ?_) (fun c3 => ?_)
    · refine mW_aload_n (j := 0) dX11_load_124 rfl rfl ?_
      refine mW_callV (As := []) (rest := []) (kc2 := 0) (ks2 := 0) dX11_load_125 l_X11_96 rfl (s2k (S2_sfi e3) (s2k (S2_sfi e1) h1)) rfl (by decide) (rX11_keeps (w := w4) (a0 := a0) (zRef_s2 (S2_sfi e3) (zRef_s2 (S2_sfi e1) h2)) (s3 w1 e1 c1 w4 e3 c3) (s4 w1 e1 c1 w4 e3 c3)) (Nat.le_of_ble_eq_true rfl) (by decide) rfl rfl mP_x (mP_k (fun w5 q2 => ?_))
      refine mW_bipush (v := 40) dX11_load_128 (by decide) ?_
      refine mW_istore_n (lv2 := [(1, .int 40), (0, .ref a0)]) dX11_load_130 rfl (by decide) rfl ?_
      refine mW_loc [1, 0] (lv2 := [(0, .ref a0), (1, .int 40)]) rfl ?_
      exact k3 w1 e1 c1 w4 e3 c3 w5 q2
    · refine mW_iconst (v := 0) dX11_load_122 (by decide) ?_
      exact mW_iret dX11_load_123 rfl (k4 w1 e1 c1 w4 e3 c3)
set_option maxHeartbeats 4000000 in
set_option maxRecDepth 100000 in
theorem gX11_load_131 {G : mG} {w : mH} {Φ : mF} {a0 : Nat} {x1 : Int32} {lt : Nat → Nat} {n c a0_1 a0_11 n_a0_11 n_a0_1 : Nat} (h1 : hk w a0 = (11, 0)) (h2 : hfr w a0 1 = some a0_1) (h3 : hfr w a0 11 = some a0_11) (h4 : hk w a0_11 = (16, n_a0_11)) (s1 : (¬ (78 ≤ x1)) → vp_in x1 n_a0_11) (h5 : hk w a0_1 = (16, n_a0_1)) (s2 : (¬ (78 ≤ x1)) → vp_in x1 n_a0_1) (k1 : (78 ≤ x1) → Φ (.inl (some (.int (hfi w a0 12)))) w) (k2 : (¬ (78 ≤ x1)) → ∀ w1 : mH, (w1 = sai w a0_1 x1.toNatClampNeg (hai w a0_11 x1.toNatClampNeg)) → mW G mX11_load 6 0 0 131 [(0, .ref a0), (1, .int (x1 + 1))] [] w1 Φ) : mW G mX11_load 6 0 0 131 [(0, .ref a0), (1, .int x1)] [] w Φ := by
  refine mW_iload_n (j := 1) dX11_load_131 rfl rfl ?_
  refine mW_bipush (v := 78) dX11_load_132 (by decide) ?_
  refine mW_icmp_ge (tgt := 155) dX11_load_134 (by decide) (fun c1 => ?_) (fun c1 => ?_)
  · refine mW_aload_n (j := 0) dX11_load_155 rfl rfl ?_
    refine mW_get dX11_load_156 f_X11_170 h1 rfl ?_
    exact mW_iret dX11_load_159 rfl (k1 c1)
  · refine mW_aload_n (j := 0) dX11_load_137 rfl rfl ?_
    refine mW_getR dX11_load_138 f_X11_13 h1 rfl h2 ?_
    refine mW_iload_n (j := 1) dX11_load_141 rfl rfl ?_
    refine mW_aload_n (j := 0) dX11_load_142 rfl rfl ?_
    refine mW_getR dX11_load_143 f_X11_33 h1 rfl h3 ?_
    refine mW_iload_n (j := 1) dX11_load_146 rfl rfl ?_
    refine mW_ialdJ dX11_load_147 h4 (s1 c1) rfl ?_
    refine mW_iastJ dX11_load_148 h5 (s2 c1) rfl ?_
    refine mW_nm (fun w1 e1 => ?_)
    refine mW_iinc (j := 1) (v := x1 + 1) (lv2 := [(1, .int (x1 + 1)), (0, .ref a0)]) dX11_load_149 rfl rfl (by decide) rfl ?_
    refine mW_goto (tgt := 131) dX11_load_152 (by decide) ?_
    refine mW_loc [1, 0] (lv2 := [(0, .ref a0), (1, .int (x1 + 1))]) rfl ?_
    exact k2 c1 w1 e1
theorem pNum_r {f lo hi : Int32} {lt : Nat → Nat} {n p q : Nat} (h : pNum f lo hi lt n p = .inr q) : q = p := by
  unfold pNum at h
  split at h <;> cases h
  rfl
theorem pCh_r {c : Nat} {lt : Nat → Nat} {n p q : Nat} (h : pCh c lt n p = .inr q) : q = p := by
  unfold pCh at h
  split at h <;> cases h
  rfl
theorem pSg_r {x : Int32} {lt : Nat → Nat} {n p q : Nat} (h : pSg x lt n p = .inr q) : q ≤ p + 1 := by
  unfold pSg at h
  split at h
  · have := pNum_r h; omega
  · have := pNum_r h; omega
theorem pSeg_r {k : Int32} {lt : Nat → Nat} {n p q : Nat} {B : Nat → Int32} (hp : p ≤ n) (h : pSeg k lt n p B = .inr q) : q ≤ n + 1 := by
  unfold pSeg at h
  split at h
  · rename_i y e1
    cases h
    have := pNum_r e1
    omega
  · rename_i y e1
    have b1 := pNum_le e1 hp
    split at h
    · cases h
    · split at h
      · rename_i z e2
        cases h
        have := pCh_r e2
        omega
      · rename_i z e2
        have b2 := pCh_le e2 (by decide)
        split at h
        · rename_i v e3
          cases h
          have := pSg_r e3
          omega
        · cases h
theorem pDis_r {lt : Nat → Nat} {n p q : Nat} {B : Nat → Int32} (hp : p ≤ n) (h : pDis lt n p B = .inr q) : q ≤ n + 1 := by
  unfold pDis at h
  split at h
  · rename_i y e1
    cases h
    have := pNum_r e1
    omega
  · rename_i y e1
    have b1 := pNum_le e1 hp
    split at h
    · rename_i z e2
      cases h
      have := pCh_r e2
      omega
    · rename_i z e2
      have b2 := pCh_le e2 (by decide)
      split at h
      · rename_i v e3
        cases h
        have := pSg_r e3
        omega
      · rename_i v e3
        have b3 := pSg_le e3 b2
        split at h
        · rename_i u e4
          cases h
          have := pCh_r e4
          omega
        · rename_i u e4
          have b4 := pCh_le e4 (by decide)
          split at h
          · rename_i t e5
            cases h
            have := pNum_r e5
            omega
          · cases h
theorem pPart_r {lt : Nat → Nat} {n p q : Nat} {B : Nat → Int32} (hp : p ≤ n) (h : pPart lt n p B = .inr q) : q ≤ n + 1 := by
  unfold pPart at h
  split at h
  · cases h; omega
  · rename_i c
    have hp1 : p + 1 ≤ n := hc_lt (fun q => c (kd_0 q))
    split at h
    · split at h
      · exact pDis_r hp1 h
      · cases h; omega
    · split at h
      · exact pSeg_r hp1 h
      · cases h; omega
theorem addSeg_c {B : Nat → Int32} {k l c : Int32} (h : cntOK B) (h8 : nSg B < 8) : cntOK (addSeg B k l c) ∧ nSg (addSeg B k l c) + nPs (addSeg B k l c) = nSg B + nPs B + 1 := by
  have e40 : addSeg B k l c 40 = nI (nSg B + 1) := by unfold addSeg; rw [if_neg (by omega), if_neg (by omega), if_neg (by omega), if_pos rfl]
  have e65 : addSeg B k l c 65 = B 65 := by unfold addSeg; rw [if_neg (by omega), if_neg (by omega), if_neg (by omega), if_neg (by omega)]
  have n1 : nSg (addSeg B k l c) = nSg B + 1 := by
    show (addSeg B k l c 40).toNatClampNeg = _
    rw [e40]; exact m_cl (by omega)
  have n2 : nPs (addSeg B k l c) = nPs B := by
    show (addSeg B k l c 65).toNatClampNeg = _
    rw [e65]; rfl
  refine ⟨⟨by rw [e40, n1], by rw [n1]; omega, by rw [e65, n2]; exact h.2.2.1, by rw [n2]; exact h.2.2.2⟩, by rw [n1, n2]; omega⟩
theorem addPus_c {B : Nat → Int32} {f v l : Int32} (h : cntOK B) (h4 : nPs B < 4) : cntOK (addPus B f v l) ∧ nSg (addPus B f v l) + nPs (addPus B f v l) = nSg B + nPs B + 1 := by
  have e65 : addPus B f v l 65 = nI (nPs B + 1) := by unfold addPus; rw [if_neg (by omega), if_neg (by omega), if_neg (by omega), if_pos rfl]
  have e40 : addPus B f v l 40 = B 40 := by unfold addPus; rw [if_neg (by omega), if_neg (by omega), if_neg (by omega), if_neg (by omega)]
  have n1 : nPs (addPus B f v l) = nPs B + 1 := by
    show (addPus B f v l 65).toNatClampNeg = _
    rw [e65]; exact m_cl (by omega)
  have n2 : nSg (addPus B f v l) = nSg B := by
    show (addPus B f v l 40).toNatClampNeg = _
    rw [e40]; rfl
  refine ⟨⟨by rw [e40, n2]; exact h.1, by rw [n2]; exact h.2.1, by rw [e65, n1], by rw [n1]; omega⟩, by rw [n1, n2]; omega⟩
theorem pPart_c {lt : Nat → Nat} {n p : Nat} {B : Nat → Int32} {x : Nat × (Nat → Int32)} (hB : cntOK B) (h : pPart lt n p B = .inl x) : cntOK x.2 ∧ nSg x.2 + nPs x.2 = nSg B + nPs B + 1 := by
  unfold pPart at h
  split at h
  · cases h
  · split at h
    · split at h
      · rename_i h4
        unfold pDis at h
        split at h
        · cases h
        · split at h
          · cases h
          · split at h
            · cases h
            · split at h
              · cases h
              · split at h
                · cases h
                · cases h; exact addPus_c hB h4
      · cases h
    · split at h
      · rename_i h8
        unfold pSeg at h
        split at h
        · cases h
        · split at h
          · cases h; exact addSeg_c hB h8
          · split at h
            · cases h
            · split at h
              · cases h
              · cases h; exact addSeg_c hB h8
      · cases h
theorem num_ge {lt : Nat → Nat} {n p : Nat} {f lo hi : Int32} {x : Nat × Int32} (h : pNum f lo hi lt n p = .inl x) : p + 1 ≤ x.1 := by
  unfold pNum at h
  by_cases c : nOK f lo hi (num lt n p) = 0
  · rw [if_pos c] at h; cases h
  · rw [if_neg c] at h
    cases h
    unfold nOK at c
    by_cases h0 : 0 < (num lt n p).1
    · show p + 1 ≤ p + (num lt n p).1
      omega
    · rw [if_neg h0] at c
      exact absurd rfl c
theorem pCh_gt {c : Nat} {lt : Nat → Nat} {n p x : Nat} (h : pCh c lt n p = .inl x) : x = p + 1 := by
  unfold pCh at h
  split at h <;> cases h
  rfl
theorem pSg_gt {x : Int32} {lt : Nat → Nat} {n p : Nat} {y : Nat × Int32} (h : pSg x lt n p = .inl y) : p + 1 ≤ y.1 := by
  unfold pSg at h
  split at h
  · have := num_ge h; omega
  · exact num_ge h
theorem pPart_gt {lt : Nat → Nat} {n p : Nat} {B : Nat → Int32} {x : Nat × (Nat → Int32)} (h : pPart lt n p B = .inl x) : p + 1 ≤ x.1 := by
  unfold pPart at h
  split at h
  · cases h
  · split at h
    · split at h
      · unfold pDis at h
        split at h
        · cases h
        · rename_i e1
          have := num_ge e1
          split at h
          · cases h
          · rename_i e2
            have := pCh_gt e2
            split at h
            · cases h
            · rename_i e3
              have := pSg_gt e3
              split at h
              · cases h
              · rename_i e4
                have := pCh_gt e4
                split at h
                · cases h
                · rename_i e5
                  have := num_ge e5
                  cases h
                  omega
      · cases h
    · split at h
      · unfold pSeg at h
        split at h
        · cases h
        · rename_i e1
          have := num_ge e1
          split at h
          · cases h; omega
          · split at h
            · cases h
            · rename_i e2
              have := pCh_gt e2
              split at h
              · cases h
              · rename_i e3
                have := pSg_gt e3
                cases h
                omega
      · cases h
def pCont (lt : Nat → Nat) (n f p : Nat) (B : Nat → Int32) : (Nat → Int32) ⊕ Nat := if p = n then .inl B else match pCh 59 lt n p with | .inr q => .inr q | .inl p2 => pTxt lt n f p2 B
theorem pTxt_s (lt : Nat → Nat) (n f p : Nat) (B : Nat → Int32) : pTxt lt n (f + 1) p B = (match pPart lt n p B with | .inr q => .inr q | .inl x => pCont lt n f x.1 x.2) := rfl
def lS (w0 w : mH) (a : Nat) (lt : Nat → Nat) (n p : Nat) (B : Nat → Int32) : Prop := xF [9, 10, 12] [6] a w0 w ∧ rS w a lt n ∧ rP w a = p ∧ hfi w a 10 = -1 ∧ hai w (a + 6) = B ∧ cntOK B ∧ hfi w a 12 = nI (nSg B + nPs B)
def lE (w0 w : mH) (a : Nat) (r : (Nat → Int32) ⊕ Nat) : Prop := xF [9, 10, 12] [6] a w0 w ∧ (∀ B, r = .inl B → hfi w a 10 = -1 ∧ hai w (a + 6) = B ∧ cntOK B ∧ hfi w a 12 = nI (nSg B + nPs B)) ∧ ∀ q, r = .inr q → hfi w a 10 = nI q ∧ q ≤ 60
theorem lS_mv {w0 w w1 : mH} {a n p : Nat} {lt : Nat → Nat} {B : Nat → Int32} (h : lS w0 w a lt n p B) (_c : ¬ (0 : Int32) ≤ hfi w a 10) (e : w1 = sfi w a 9 (hfi w a 9 + 1)) (hp : p ≤ 900 := by omega) : xF [9, 10, 12] [6] a w w1 ∧ rS w1 a lt n ∧ rP w1 a = p + 1 ∧ hfi w1 a 10 = -1 ∧ hai w1 (a + 6) = B ∧ hfi w1 a 12 = hfi w a 12 := by
  obtain ⟨F, h1, h2, h3, h4, h5, h6⟩ := h
  obtain ⟨g1, g2, g3⟩ := u_mv h1 (by omega) e
  exact ⟨g1.wide (by decide) (by decide), g2, by rw [g3, h2], by rw [e, e_hfi_sfi, up2_k _ _ _ (by decide)]; exact h3, by rw [e]; exact h4, by rw [e, e_hfi_sfi, up2_k _ _ _ (by decide)]⟩
theorem lp_59 {w0 w : mH} {a n p : Nat} {lt : Nat → Nat} {B : Nat → Int32} (h : lS w0 w a lt n p B) (c : hI lt n (rP w a) = 59) : p + 1 ≤ n := by
  rw [h.2.2.1] at c
  have := (hI_c (c := 59) (fun i hi => (h.2.1.2.2.1 i hi).2) (by decide) (by decide)).mp c
  exact hc_lt (by rw [this]; decide)
theorem load_loop {G : mG} {w0 : mH} {a0 n : Nat} {lt : Nat → Nat} {Φ : mF} (z : zRef w0 a0) : ∀ f p B w, n ≤ p + 2 * f → p ≤ n → lS w0 w a0 lt n p B →
    (∀ w', lE w0 w' a0 (pCont lt n f p B) → mW G mX11_load 6 0 0 94 [(0, .ref a0)] [] w' Φ) → mW G mX11_load 6 0 0 35 [(0, .ref a0)] [] w Φ := by
  intro f
  induction f with
  | zero =>
    intro p B w hf hp h hΦ
    have hn50 := h.2.1.2.1
    have hs := mS2.of h.1.1
    have pn : p = n := by omega
    refine gX11_load_35 (lt := lt) (n := n) (c := 0) ((zRef_s2 hs z).1) ((zRef_s2 hs z)) (fun _ => h.2.1) (fun c1 c2 w1 e1 => (lS_mv h c1 e1).2.1) (fun c1 c2 w1 e1 => by rw [(lS_mv h c1 e1).2.2.1]; exact lp_59 h c2) (fun c1 c2 w1 e1 => (lS_mv h c1 e1).2.2.2.1) (fun c1 c2 w1 e1 => by rw [(lS_mv h c1 e1).2.2.2.2.1]; exact h.2.2.2.2.2.1) ?_ ?_ ?_
    · intro c1
      rw [h.2.2.2.1] at c1
      exact absurd c1 (by decide)
    · intro c1 c2
      have hs := mS2.of h.1.1
      refine gX11_load_68 (lt := lt) (n := n) (c := 0) ((zRef_s2 hs z).1) ?_ ?_ ?_
      · intro c3
        exact absurd c3 c1
      · intro _ _
        refine hΦ w ⟨h.1, fun B' q => ?_, fun q' q => ?_⟩
        · unfold pCont at q
          rw [if_pos pn] at q
          cases q
          exact h.2.2.2
        · unfold pCont at q
          rw [if_pos pn] at q
          cases q
      · intro _ c3
        exfalso
        apply c3
        rw [h.2.1.1, h.2.1.2.2.2.1, show (hfi w a0 9).toNatClampNeg = p from h.2.2.1]
        exact (m_le (by omega) (by omega)).mpr (by omega)
    · intro c1 c2
      have := lp_59 h c2
      omega
  | succ f ih =>
    intro p B w hf hp h hΦ
    have hn50 := h.2.1.2.1
    have hl : ∀ i, i < n → 33 ≤ lt i ∧ lt i ≤ 126 := fun i hi => (h.2.1.2.2.1 i hi).2
    have hs := mS2.of h.1.1
    refine gX11_load_35 (lt := lt) (n := n) (c := 0) ((zRef_s2 hs z).1) ((zRef_s2 hs z)) (fun _ => h.2.1) (fun c1 c2 w1 e1 => (lS_mv h c1 e1).2.1) (fun c1 c2 w1 e1 => by rw [(lS_mv h c1 e1).2.2.1]; exact lp_59 h c2) (fun c1 c2 w1 e1 => (lS_mv h c1 e1).2.2.2.1) (fun c1 c2 w1 e1 => by rw [(lS_mv h c1 e1).2.2.2.2.1]; exact h.2.2.2.2.2.1) ?_ ?_ ?_
    · intro c1
      rw [h.2.2.2.1] at c1
      exact absurd c1 (by decide)
    · intro c1 c2
      have hs := mS2.of h.1.1
      have e89 : hfi w a0 8 ≤ hfi w a0 9 ↔ n ≤ p := by rw [h.2.1.1, h.2.1.2.2.2.1, show (hfi w a0 9).toNatClampNeg = p from h.2.2.1]; exact m_le (by omega) (by omega)
      refine gX11_load_68 (lt := lt) (n := n) (c := 0) ((zRef_s2 hs z).1) ?_ ?_ ?_
      · intro c3
        exact absurd c3 c1
      · intro _ c3
        rw [e89] at c3
        have pn : p = n := by omega
        refine hΦ w ⟨h.1, fun B' q => ?_, fun q' q => ?_⟩
        · unfold pCont at q
          rw [if_pos pn] at q
          cases q
          exact h.2.2.2
        · unfold pCont at q
          rw [if_pos pn] at q
          cases q
      · intro _ c3 w1 e1
        rw [e89] at c3
        have pn : ¬ p = n := by omega
        rw [h.2.2.1] at c2
        have c59 : pCh 59 lt n p = .inr p := by unfold pCh; rw [if_neg (fun q => c2 ((hI_c (c := 59) hl (by decide) (by decide)).mpr q))]
        have e : pCont lt n (f + 1) p B = .inr p := by unfold pCont; rw [if_neg pn, c59]
        rw [e] at hΦ
        refine hΦ w1 ⟨by rw [e1]; exact xF_sfi h.1 (by decide), fun B' q => (by cases q), fun q' q => ?_⟩
        cases q
        exact ⟨by rw [e1, e_hfi_sfi, up2_at, h.2.1.2.2.2.1, show (hfi w a0 9).toNatClampNeg = p from h.2.2.1], by omega⟩
    · intro c1 c2 w1 e1 w2 q1
      have hp1 := lp_59 h c2
      obtain ⟨M1, M2, M3, M4, M5, M6⟩ := lS_mv h c1 e1
      rw [h.2.2.1] at c2
      have c59 : pCh 59 lt n p = .inl (p + 1) := by unfold pCh; rw [if_pos ((hI_c (c := 59) hl (by decide) (by decide)).mp c2)]
      have pn : ¬ p = n := by omega
      have e : pCont lt n (f + 1) p B = pTxt lt n (f + 1) (p + 1) B := by unfold pCont; rw [if_neg pn, c59]
      rw [e, pTxt_s] at hΦ
      rw [M3, M5] at q1
      obtain ⟨Q1, ⟨p', Q2, Q2'⟩, Q3, Q4⟩ := q1
      have F2 : xF [9, 10, 12] [6] a0 w0 w2 := (h.1.tr M1).tr Q1
      cases ep : pPart lt n (p + 1) B with
      | inr q =>
        rw [ep] at hΦ
        have e10 := Q4 q ep
        have qb := pPart_r hp1 ep
        have c0 : (0 : Int32) ≤ hfi w2 a0 10 := by rw [e10]; exact nI_pos' (by omega)
        have Z2 := zRef_s2 (mS2.of F2.1) z
        refine gX11_load_35 (lt := lt) (n := n) (c := 0) Z2.1 Z2 (fun d => absurd c0 d) (fun d => absurd c0 d) (fun d => absurd c0 d) (fun d => absurd c0 d) (fun d => absurd c0 d) (fun _ => ?_) (fun d => absurd c0 d) (fun d => absurd c0 d)
        refine gX11_load_68 (lt := lt) (n := n) (c := 0) Z2.1 (fun _ => ?_) (fun d => absurd c0 d) (fun d => absurd c0 d)
        exact hΦ w2 ⟨F2, fun B' q => (by cases q), fun q' hq => (by cases hq; exact ⟨e10, by omega⟩)⟩
      | inl x =>
        rw [ep] at hΦ
        obtain ⟨R1, R2, R3, R4⟩ := Q3 x ep
        have xb := pPart_le hp1 ep
        have xc := pPart_c h.2.2.2.2.2.1 ep
        have xp : p + 2 ≤ x.1 := pPart_gt ep
        refine ih x.1 x.2 w2 (by omega) xb ⟨F2, rS_at M2 (Q1.ai (by decide)) (Q1.fi (by decide)) R1 (by omega), rP_v R1 (by omega), R2, R3, xc.1, ?_⟩ hΦ
        rw [R4, M6, h.2.2.2.2.2.2, nI_1, xc.2]

