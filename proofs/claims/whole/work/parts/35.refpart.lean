abbrev mX11_part : mM := (yX11_part, cX11_part, 4, none, [])
set_option maxHeartbeats 4000000 in
set_option maxRecDepth 100000 in
theorem gX11_part_0 {G : mG} {w : mH} {Φ : mF} {a0 : Nat} {lt : Nat → Nat} {n : Nat} (h1 : hk w a0 = (11, 0)) (h2 : zRef w a0) (s1 : rS w a0 lt n) (k1 : (¬ ((hI lt n (rP w a0)) = 115)) → (¬ ((hI lt n (rP w a0)) = 98)) → (¬ ((hI lt n (rP w a0)) = 114)) → (¬ ((hI lt n (rP w a0)) = 112)) → mW G mX11_part 5 0 0 47 [(0, .ref a0), (1, .int (hI lt n (rP w a0))), (2, .int (-1))] [] w Φ) (k2 : (¬ ((hI lt n (rP w a0)) = 115)) → (¬ ((hI lt n (rP w a0)) = 98)) → (¬ ((hI lt n (rP w a0)) = 114)) → ((hI lt n (rP w a0)) = 112) → mW G mX11_part 5 0 0 47 [(0, .ref a0), (1, .int (hI lt n (rP w a0))), (2, .int 3)] [] w Φ) (k3 : (¬ ((hI lt n (rP w a0)) = 115)) → (¬ ((hI lt n (rP w a0)) = 98)) → ((hI lt n (rP w a0)) = 114) → mW G mX11_part 5 0 0 47 [(0, .ref a0), (1, .int (hI lt n (rP w a0))), (2, .int 2)] [] w Φ) (k4 : (¬ ((hI lt n (rP w a0)) = 115)) → ((hI lt n (rP w a0)) = 98) → mW G mX11_part 5 0 0 47 [(0, .ref a0), (1, .int (hI lt n (rP w a0))), (2, .int 1)] [] w Φ) (k5 : ((hI lt n (rP w a0)) = 115) → mW G mX11_part 5 0 0 47 [(0, .ref a0), (1, .int (hI lt n (rP w a0))), (2, .int 0)] [] w Φ) : mW G mX11_part 5 0 0 0 [(0, .ref a0)] [] w Φ := by
  refine mW_aload_n (j := 0) dX11_part_0 rfl rfl ?_
  refine mW_callVe (As := []) (rest := []) (kc2 := 0) (ks2 := 0) dX11_part_1 l_X11_152 rfl h1 rfl (by decide) (qX11_here' (w := w) (a0 := a0) h2 s1) (Nat.le_of_ble_eq_true rfl) (by decide) rfl rfl ?_
  refine mW_istore_n (lv2 := [(1, .int (hI lt n (rP w a0))), (0, .ref a0)]) dX11_part_4 rfl (by decide) rfl ?_
  refine mW_iload_n (j := 0) dX11_part_5 rfl rfl ?_
  refine mW_bipush (v := 115) dX11_part_6 (by decide) ?_
  refine mW_icmp_ne (tgt := 15) dX11_part_8 (by decide) (fun c1 => ?_) (fun c1 => ?_)
  · refine mW_iload_n (j := 0) dX11_part_15 rfl rfl ?_
    refine mW_bipush (v := 98) dX11_part_16 (by decide) ?_
    refine mW_icmp_ne (tgt := 25) dX11_part_18 (by decide) (fun c2 => ?_) (fun c2 => ?_)
    · refine mW_iload_n (j := 0) dX11_part_25 rfl rfl ?_
      refine mW_bipush (v := 114) dX11_part_26 (by decide) ?_
      refine mW_icmp_ne (tgt := 35) dX11_part_28 (by decide) (fun c3 => ?_) (fun c3 => ?_)
      · refine mW_iload_n (j := 0) dX11_part_35 rfl rfl ?_
        refine mW_bipush (v := 112) dX11_part_36 (by decide) ?_
        refine mW_icmp_ne (tgt := 45) dX11_part_38 (by decide) (fun c4 => ?_) (fun c4 => ?_)
        · refine mW_iconst (v := (-1)) dX11_part_45 (by decide) ?_
          refine mW_istore_n (lv2 := [(2, .int (-1)), (1, .int (hI lt n (rP w a0))), (0, .ref a0)]) dX11_part_46 rfl (by decide) rfl ?_
          refine mW_loc [2, 1, 0] (lv2 := [(0, .ref a0), (1, .int (hI lt n (rP w a0))), (2, .int (-1))]) rfl ?_
          exact k1 c1 c2 c3 c4
        · refine mW_iconst (v := 3) dX11_part_41 (by decide) ?_
          refine mW_goto (tgt := 46) dX11_part_42 (by decide) ?_
          refine mW_istore_n (lv2 := [(2, .int 3), (1, .int (hI lt n (rP w a0))), (0, .ref a0)]) dX11_part_46 rfl (by decide) rfl ?_
          refine mW_loc [2, 1, 0] (lv2 := [(0, .ref a0), (1, .int (hI lt n (rP w a0))), (2, .int 3)]) rfl ?_
          exact k2 c1 c2 c3 c4
      · refine mW_iconst (v := 2) dX11_part_31 (by decide) ?_
        refine mW_goto (tgt := 46) dX11_part_32 (by decide) ?_
        refine mW_istore_n (lv2 := [(2, .int 2), (1, .int (hI lt n (rP w a0))), (0, .ref a0)]) dX11_part_46 rfl (by decide) rfl ?_
        refine mW_loc [2, 1, 0] (lv2 := [(0, .ref a0), (1, .int (hI lt n (rP w a0))), (2, .int 2)]) rfl ?_
        exact k3 c1 c2 c3
    · refine mW_iconst (v := 1) dX11_part_21 (by decide) ?_
      refine mW_goto (tgt := 46) dX11_part_22 (by decide) ?_
      refine mW_istore_n (lv2 := [(2, .int 1), (1, .int (hI lt n (rP w a0))), (0, .ref a0)]) dX11_part_46 rfl (by decide) rfl ?_
      refine mW_loc [2, 1, 0] (lv2 := [(0, .ref a0), (1, .int (hI lt n (rP w a0))), (2, .int 1)]) rfl ?_
      exact k4 c1 c2
  · refine mW_iconst (v := 0) dX11_part_11 (by decide) ?_
    refine mW_goto (tgt := 46) dX11_part_12 (by decide) ?_
    refine mW_istore_n (lv2 := [(2, .int 0), (1, .int (hI lt n (rP w a0))), (0, .ref a0)]) dX11_part_46 rfl (by decide) rfl ?_
    refine mW_loc [2, 1, 0] (lv2 := [(0, .ref a0), (1, .int (hI lt n (rP w a0))), (2, .int 0)]) rfl ?_
    exact k5 c1
theorem u1571 : (Cond.fieldLink "LineFollowerBenchModel" 33 "LineFollowerBenchModel" "read" "[I" : Cond) ∈ mTs := mTs_in 1571 (by decide +kernel) (by decide +kernel)
theorem f_X11_33 : mFld "LineFollowerBenchModel" 33 11 11 := ⟨RX11, TX11, 36, "LineFollowerBenchModel", rfl, by decide, in_X11, u1571, Or.inl rfl, by decide⟩
set_option maxHeartbeats 4000000 in
set_option maxRecDepth 100000 in
theorem gX11_part_47 {G : mG} {w : mH} {Φ : mF} {a0 : Nat} {x1 x2 : Int32} {lt : Nat → Nat} {n a0_11 n_a0_11 : Nat} (h1 : hk w a0 = (11, 0)) (h2 : hfr w a0 11 = some a0_11) (h3 : hk w a0_11 = (16, n_a0_11)) (s1 : vp_in 40 n_a0_11) (s2 : vp_in 65 n_a0_11) (s3 : vp_in 40 n_a0_11) (k1 : (x2 < 0) → ∀ w1 : mH, (w1 = sfi w a0 10 (hfi w a0 9)) → Φ (.inl none) w1) (k2 : (¬ (x2 < 0)) → (¬ (x2 = 3)) → (3 ≤ x2) → mW G mX11_part 5 0 0 97 [(0, .ref a0), (1, .int x1), (2, .int x2)] [] w Φ) (k3 : (¬ (x2 < 0)) → (¬ (x2 = 3)) → (¬ (3 ≤ x2)) → (¬ ((hai w a0_11 40) = 8)) → mW G mX11_part 5 0 0 97 [(0, .ref a0), (1, .int x1), (2, .int x2)] [] w Φ) (k4 : (¬ (x2 < 0)) → (¬ (x2 = 3)) → (¬ (3 ≤ x2)) → ((hai w a0_11 40) = 8) → ∀ w2 : mH, (w2 = sfi w a0 10 (hfi w a0 9)) → Φ (.inl none) w2) (k5 : (¬ (x2 < 0)) → (x2 = 3) → ((hai w a0_11 65) = 4) → ∀ w3 : mH, (w3 = sfi w a0 10 (hfi w a0 9)) → Φ (.inl none) w3) (k6 : (¬ (x2 < 0)) → (x2 = 3) → (¬ ((hai w a0_11 65) = 4)) → (3 ≤ x2) → mW G mX11_part 5 0 0 97 [(0, .ref a0), (1, .int x1), (2, .int x2)] [] w Φ) (k7 : (¬ (x2 < 0)) → (x2 = 3) → (¬ ((hai w a0_11 65) = 4)) → (¬ (3 ≤ x2)) → (¬ ((hai w a0_11 40) = 8)) → mW G mX11_part 5 0 0 97 [(0, .ref a0), (1, .int x1), (2, .int x2)] [] w Φ) (k8 : (¬ (x2 < 0)) → (x2 = 3) → (¬ ((hai w a0_11 65) = 4)) → (¬ (3 ≤ x2)) → ((hai w a0_11 40) = 8) → ∀ w4 : mH, (w4 = sfi w a0 10 (hfi w a0 9)) → Φ (.inl none) w4) : mW G mX11_part 5 0 0 47 [(0, .ref a0), (1, .int x1), (2, .int x2)] [] w Φ := by
  refine mW_iload_n (j := 2) dX11_part_47 rfl rfl ?_
  refine mW_if_lt (tgt := 88) dX11_part_48 (by decide) (fun c1 => ?_) (fun c1 => ?_)
  · refine mW_aload_n (j := 0) dX11_part_88 rfl rfl ?_
    refine mW_aload_n (j := 0) dX11_part_89 rfl rfl ?_
    refine mW_get dX11_part_90 f_X11_149 h1 rfl ?_
    refine mW_put (ty := .int) (w2 := sfi w a0 10 (hfi w a0 9)) dX11_part_93 p_X11_30 h1 (Nat.le_of_ble_eq_true rfl) (by first | rfl | decide | (repeat' split) <;> rfl) rfl (hN_sfi _ _ _ _) (hk_sfi _ _ _ _) (mE_sfi h1 (by decide) (ob_11_10 _ _ _)) ?_
    refine mW_nm (fun w1 e1 => ?_)
    exact mW_vret dX11_part_96 rfl (k1 c1 w1 e1)
  · refine mW_iload_n (j := 2) dX11_part_51 rfl rfl ?_
    refine mW_iconst (v := 3) dX11_part_52 (by decide) ?_
    refine mW_icmp_ne (tgt := 67) dX11_part_53 (by decide) (fun c2 => ?_) (fun c2 => ?_)
    · refine mW_iload_n (j := 2) dX11_part_67 rfl rfl ?_
      refine mW_if_lt (tgt := 97) dX11_part_68 (by decide) (fun c => absurd c c1) (fun _ => ?_)
      refine mW_iload_n (j := 2) dX11_part_71 rfl rfl ?_
      refine mW_iconst (v := 3) dX11_part_72 (by decide) ?_
      refine mW_icmp_ge (tgt := 97) dX11_part_73 (by decide) (fun c3 => ?_) (fun c3 => ?_)
      · exact k2 c1 c2 c3
      · refine mW_aload_n (j := 0) dX11_part_76 rfl rfl ?_
        refine mW_getR dX11_part_77 f_X11_33 h1 rfl h2 ?_
        refine mW_bipush (v := 40) dX11_part_80 (by decide) ?_
        refine mW_ialdJ dX11_part_82 h3 s1 (j := 40) (by decide) ?_
        refine mW_bipush (v := 8) dX11_part_83 (by decide) ?_
        refine mW_icmp_ne (tgt := 97) dX11_part_85 (by decide) (fun c4 => ?_) (fun c4 => ?_)
        · exact k3 c1 c2 c3 c4
        · refine mW_aload_n (j := 0) dX11_part_88 rfl rfl ?_
          refine mW_aload_n (j := 0) dX11_part_89 rfl rfl ?_
          refine mW_get dX11_part_90 f_X11_149 h1 rfl ?_
          refine mW_put (ty := .int) (w2 := sfi w a0 10 (hfi w a0 9)) dX11_part_93 p_X11_30 h1 (Nat.le_of_ble_eq_true rfl) (by first | rfl | decide | (repeat' split) <;> rfl) rfl (hN_sfi _ _ _ _) (hk_sfi _ _ _ _) (mE_sfi h1 (by decide) (ob_11_10 _ _ _)) ?_
          refine mW_nm (fun w2 e2 => ?_)
          exact mW_vret dX11_part_96 rfl (k4 c1 c2 c3 c4 w2 e2)
    · refine mW_aload_n (j := 0) dX11_part_56 rfl rfl ?_
      refine mW_getR dX11_part_57 f_X11_33 h1 rfl h2 ?_
      refine mW_bipush (v := 65) dX11_part_60 (by decide) ?_
      refine mW_ialdJ dX11_part_62 h3 s2 (j := 65) (by decide) ?_
      refine mW_iconst (v := 4) dX11_part_63 (by decide) ?_
      refine mW_icmp_eq (tgt := 88) dX11_part_64 (by decide) (fun c5 => ?_) (fun c5 => ?_)
      · refine mW_aload_n (j := 0) dX11_part_88 rfl rfl ?_
        refine mW_aload_n (j := 0) dX11_part_89 rfl rfl ?_
        refine mW_get dX11_part_90 f_X11_149 h1 rfl ?_
        refine mW_put (ty := .int) (w2 := sfi w a0 10 (hfi w a0 9)) dX11_part_93 p_X11_30 h1 (Nat.le_of_ble_eq_true rfl) (by first | rfl | decide | (repeat' split) <;> rfl) rfl (hN_sfi _ _ _ _) (hk_sfi _ _ _ _) (mE_sfi h1 (by decide) (ob_11_10 _ _ _)) ?_
        refine mW_nm (fun w3 e3 => ?_)
        exact mW_vret dX11_part_96 rfl (k5 c1 c2 c5 w3 e3)
      · refine mW_iload_n (j := 2) dX11_part_67 rfl rfl ?_
        refine mW_if_lt (tgt := 97) dX11_part_68 (by decide) (fun c => absurd c c1) (fun _ => ?_)
        refine mW_iload_n (j := 2) dX11_part_71 rfl rfl ?_
        refine mW_iconst (v := 3) dX11_part_72 (by decide) ?_
        refine mW_icmp_ge (tgt := 97) dX11_part_73 (by decide) (fun c6 => ?_) (fun c6 => ?_)
        · exact k6 c1 c2 c5 c6
        · refine mW_aload_n (j := 0) dX11_part_76 rfl rfl ?_
          refine mW_getR dX11_part_77 f_X11_33 h1 rfl h2 ?_
          refine mW_bipush (v := 40) dX11_part_80 (by decide) ?_
          refine mW_ialdJ dX11_part_82 h3 s3 (j := 40) (by decide) ?_
          refine mW_bipush (v := 8) dX11_part_83 (by decide) ?_
          refine mW_icmp_ne (tgt := 97) dX11_part_85 (by decide) (fun c7 => ?_) (fun c7 => ?_)
          · exact k7 c1 c2 c5 c6 c7
          · refine mW_aload_n (j := 0) dX11_part_88 rfl rfl ?_
            refine mW_aload_n (j := 0) dX11_part_89 rfl rfl ?_
            refine mW_get dX11_part_90 f_X11_149 h1 rfl ?_
            refine mW_put (ty := .int) (w2 := sfi w a0 10 (hfi w a0 9)) dX11_part_93 p_X11_30 h1 (Nat.le_of_ble_eq_true rfl) (by first | rfl | decide | (repeat' split) <;> rfl) rfl (hN_sfi _ _ _ _) (hk_sfi _ _ _ _) (mE_sfi h1 (by decide) (ob_11_10 _ _ _)) ?_
            refine mW_nm (fun w4 e4 => ?_)
            exact mW_vret dX11_part_96 rfl (k8 c1 c2 c5 c6 c7 w4 e4)
set_option maxHeartbeats 4000000 in
set_option maxRecDepth 100000 in
theorem gX11_part_97 {G : mG} {w : mH} {Φ : mF} {a0 : Nat} {x1 x2 : Int32} {lt : Nat → Nat} {n a0_11 n_a0_11 : Nat} (h1 : hk w a0 = (11, 0)) (h2 : hfr w a0 11 = some a0_11) (h3 : hk w a0_11 = (16, n_a0_11)) (s1 : vp_in 40 n_a0_11) (s2 : vp_in 65 n_a0_11) (k1 : ∀ w1 : mH, (w1 = sfi w a0 9 ((hfi w a0 9) + 1)) → (¬ (x2 = 3)) → mW G mX11_part 5 0 0 140 [(0, .ref a0), (1, .int x1), (2, .int x2), (3, .int (41 + (3 * (hai w1 a0_11 40))))] [] w1 Φ) (k2 : ∀ w1 : mH, (w1 = sfi w a0 9 ((hfi w a0 9) + 1)) → (x2 = 3) → mW G mX11_part 5 0 0 140 [(0, .ref a0), (1, .int x1), (2, .int x2), (3, .int (66 + (3 * (hai w1 a0_11 65))))] [] w1 Φ) : mW G mX11_part 5 0 0 97 [(0, .ref a0), (1, .int x1), (2, .int x2)] [] w Φ := by
  refine mW_aload_n (j := 0) dX11_part_97 rfl rfl ?_
  refine mW_dup dX11_part_98 rfl ?_
  refine mW_get dX11_part_99 f_X11_149 h1 rfl ?_
  refine mW_iconst (v := 1) dX11_part_102 (by decide) ?_
  refine mW_iadd dX11_part_103 ?_
  refine mW_put (ty := .int) (w2 := sfi w a0 9 ((hfi w a0 9) + 1)) dX11_part_104 p_X11_149 h1 (Nat.le_of_ble_eq_true rfl) (by first | rfl | decide | (repeat' split) <;> rfl) rfl (hN_sfi _ _ _ _) (hk_sfi _ _ _ _) (mE_sfi h1 (by decide) (ob_11_9 _ _ _)) ?_
  refine mW_nm (fun w1 e1 => ?_)
  refine mW_iload_n (j := 2) dX11_part_107 rfl rfl ?_
  refine mW_iconst (v := 3) dX11_part_108 (by decide) ?_
  refine mW_icmp_ne (tgt := 127) dX11_part_109 (by decide) (fun c1 => ?_) (fun c1 => ?_)
  · refine mW_bipush (v := 41) dX11_part_127 (by decide) ?_
    refine mW_iconst (v := 3) dX11_part_129 (by decide) ?_
    refine mW_aload_n (j := 0) dX11_part_130 rfl rfl ?_
    refine mW_getR dX11_part_131 f_X11_33 (s2k (S2_sfi e1) h1) rfl (s2r (S2_sfi e1) h2) ?_
    refine mW_bipush (v := 40) dX11_part_134 (by decide) ?_
    refine mW_ialdJ dX11_part_136 (s2k (S2_sfi e1) h3) s1 (j := 40) (by decide) ?_
    refine mW_imul dX11_part_137 ?_
    refine mW_iadd dX11_part_138 ?_
    refine mW_istore_n (lv2 := [(3, .int (41 + (3 * (hai w1 a0_11 40)))), (0, .ref a0), (1, .int x1), (2, .int x2)]) dX11_part_139 rfl (by decide) rfl ?_
    refine mW_loc [1, 2, 3, 0] (lv2 := [(0, .ref a0), (1, .int x1), (2, .int x2), (3, .int (41 + (3 * (hai w1 a0_11 40))))]) rfl ?_
    exact k1 w1 e1 c1
  · refine mW_bipush (v := 66) dX11_part_112 (by decide) ?_
    refine mW_iconst (v := 3) dX11_part_114 (by decide) ?_
    refine mW_aload_n (j := 0) dX11_part_115 rfl rfl ?_
    refine mW_getR dX11_part_116 f_X11_33 (s2k (S2_sfi e1) h1) rfl (s2r (S2_sfi e1) h2) ?_
    refine mW_bipush (v := 65) dX11_part_119 (by decide) ?_
    refine mW_ialdJ dX11_part_121 (s2k (S2_sfi e1) h3) s2 (j := 65) (by decide) ?_
    refine mW_imul dX11_part_122 ?_
    refine mW_iadd dX11_part_123 ?_
    refine mW_goto (tgt := 139) dX11_part_124 (by decide) ?_
    refine mW_istore_n (lv2 := [(3, .int (66 + (3 * (hai w1 a0_11 65)))), (0, .ref a0), (1, .int x1), (2, .int x2)]) dX11_part_139 rfl (by decide) rfl ?_
    refine mW_loc [1, 2, 3, 0] (lv2 := [(0, .ref a0), (1, .int x1), (2, .int x2), (3, .int (66 + (3 * (hai w1 a0_11 65))))]) rfl ?_
    exact k2 w1 e1 c1
set_option maxHeartbeats 4000000 in
set_option maxRecDepth 100000 in
theorem gX11_part_140 {G : mG} {w : mH} {Φ : mF} {a0 : Nat} {x1 x2 x3 : Int32} {lt : Nat → Nat} {n : Nat}  (k1 : (¬ (x2 = 3)) → mW G mX11_part 5 0 0 215 [(0, .ref a0), (1, .int x1), (2, .int x2), (3, .int x3)] [] w Φ) (k2 : (x2 = 3) → mW G mX11_part 5 0 0 145 [(0, .ref a0), (1, .int x1), (2, .int x2), (3, .int x3)] [] w Φ) : mW G mX11_part 5 0 0 140 [(0, .ref a0), (1, .int x1), (2, .int x2), (3, .int x3)] [] w Φ := by
  refine mW_iload_n (j := 2) dX11_part_140 rfl rfl ?_
  refine mW_iconst (v := 3) dX11_part_141 (by decide) ?_
  refine mW_icmp_ne (tgt := 215) dX11_part_142 (by decide) (fun c1 => ?_) (fun c1 => ?_)
  · exact k1 c1
  · exact k2 c1
theorem u1779 : (Cond.code ⟨"LineFollowerBenchModel", "wants", "(I)V"⟩ prog_13_method_28_code 2 (none : Option ClassFile.FieldType) : Cond) ∈ mTs := mTs_in 1779 (by decide +kernel) (by decide +kernel)
theorem co_X11_wants : mCode mX11_wants := ⟨u1779, u85, by decide⟩
theorem u1776 : (Cond.methodLink "LineFollowerBenchModel" 163 ⟨"LineFollowerBenchModel", "wants", "(I)V"⟩ : Cond) ∈ mTs := mTs_in 1776 (by decide +kernel) (by decide +kernel)
theorem u1778 : (Cond.instanceMethod ⟨"LineFollowerBenchModel", "wants", "(I)V"⟩ : Cond) ∈ mTs := mTs_in 1778 (by decide +kernel) (by decide +kernel)
theorem u49 : (Cond.selects "LineFollowerBenchModel" ⟨"LineFollowerBenchModel", "wants", "(I)V"⟩ ⟨"LineFollowerBenchModel", "wants", "(I)V"⟩ : Cond) ∈ mTs := mTs_in 49 (by decide +kernel) (by decide +kernel)
theorem l_X11_163 : mLinkV "LineFollowerBenchModel" 163 1 mX11_wants := ⟨⟨by decide, by decide, by decide +kernel⟩, co_X11_wants, u1776, u1778, u49⟩
theorem u1783 : (Cond.code ⟨"LineFollowerBenchModel", "signed", "(I)I"⟩ prog_13_method_30_code 4 (some .int) : Cond) ∈ mTs := mTs_in 1783 (by decide +kernel) (by decide +kernel)
theorem co_X11_signed : mCode mX11_signed := ⟨u1783, u85, by decide⟩
theorem u1780 : (Cond.methodLink "LineFollowerBenchModel" 167 ⟨"LineFollowerBenchModel", "signed", "(I)I"⟩ : Cond) ∈ mTs := mTs_in 1780 (by decide +kernel) (by decide +kernel)
theorem u1782 : (Cond.instanceMethod ⟨"LineFollowerBenchModel", "signed", "(I)I"⟩ : Cond) ∈ mTs := mTs_in 1782 (by decide +kernel) (by decide +kernel)
theorem u50 : (Cond.selects "LineFollowerBenchModel" ⟨"LineFollowerBenchModel", "signed", "(I)I"⟩ ⟨"LineFollowerBenchModel", "signed", "(I)I"⟩ : Cond) ∈ mTs := mTs_in 50 (by decide +kernel) (by decide +kernel)
theorem l_X11_167 : mLinkV "LineFollowerBenchModel" 167 1 mX11_signed := ⟨⟨by decide, by decide, by decide +kernel⟩, co_X11_signed, u1780, u1782, u50⟩
set_option maxHeartbeats 4000000 in
set_option maxRecDepth 100000 in
theorem gX11_part_145 {G : mG} {w : mH} {Φ : mF} {a0 : Nat} {x1 x2 x3 : Int32} {lt : Nat → Nat} {n a0_11 n_a0_11 : Nat} (h1 : hk w a0 = (11, 0)) (h2 : hfr w a0 11 = some a0_11) (h3 : zRef w a0) (s1 : rS w a0 lt n) (s2 : rP w a0 ≤ 900) (h4 : hk w a0_11 = (16, n_a0_11)) (s3 : ∀ w1 : mH, (uEnd w w1 a0 (uNum 0 199 lt n (rP w a0) (hfi w a0 10))) → vp_in x3 n_a0_11) (s4 : ∀ w1 : mH, (uEnd w w1 a0 (uNum 0 199 lt n (rP w a0) (hfi w a0 10))) → ∀ w2 : mH, (w2 = sai w1 a0_11 x3.toNatClampNeg ((uNum 0 199 lt n (rP w a0) (hfi w a0 10)).1)) → rS w2 a0 lt n) (s5 : ∀ w1 : mH, (uEnd w w1 a0 (uNum 0 199 lt n (rP w a0) (hfi w a0 10))) → ∀ w2 : mH, (w2 = sai w1 a0_11 x3.toNatClampNeg ((uNum 0 199 lt n (rP w a0) (hfi w a0 10)).1)) → rP w2 a0 ≤ 900) (s6 : ∀ w1 : mH, (uEnd w w1 a0 (uNum 0 199 lt n (rP w a0) (hfi w a0 10))) → ∀ w2 : mH, (w2 = sai w1 a0_11 x3.toNatClampNeg ((uNum 0 199 lt n (rP w a0) (hfi w a0 10)).1)) → ∀ w3 : mH, (uEnd w2 w3 a0 (uWan 58 lt n (rP w2 a0) (hfi w2 a0 10))) → rS w3 a0 lt n) (s7 : ∀ w1 : mH, (uEnd w w1 a0 (uNum 0 199 lt n (rP w a0) (hfi w a0 10))) → ∀ w2 : mH, (w2 = sai w1 a0_11 x3.toNatClampNeg ((uNum 0 199 lt n (rP w a0) (hfi w a0 10)).1)) → ∀ w3 : mH, (uEnd w2 w3 a0 (uWan 58 lt n (rP w2 a0) (hfi w2 a0 10))) → rP w3 a0 ≤ 800) (s8 : ∀ w1 : mH, (uEnd w w1 a0 (uNum 0 199 lt n (rP w a0) (hfi w a0 10))) → ∀ w2 : mH, (w2 = sai w1 a0_11 x3.toNatClampNeg ((uNum 0 199 lt n (rP w a0) (hfi w a0 10)).1)) → ∀ w3 : mH, (uEnd w2 w3 a0 (uWan 58 lt n (rP w2 a0) (hfi w2 a0 10))) → ∀ w4 : mH, (uEnd w3 w4 a0 (uSg 500 lt n (rP w3 a0) (hfi w3 a0 10))) → vp_in (x3 + 1) n_a0_11) (s9 : ∀ w1 : mH, (uEnd w w1 a0 (uNum 0 199 lt n (rP w a0) (hfi w a0 10))) → ∀ w2 : mH, (w2 = sai w1 a0_11 x3.toNatClampNeg ((uNum 0 199 lt n (rP w a0) (hfi w a0 10)).1)) → ∀ w3 : mH, (uEnd w2 w3 a0 (uWan 58 lt n (rP w2 a0) (hfi w2 a0 10))) → ∀ w4 : mH, (uEnd w3 w4 a0 (uSg 500 lt n (rP w3 a0) (hfi w3 a0 10))) → ∀ w5 : mH, (w5 = sai w4 a0_11 ((x3 + 1).toNatClampNeg) ((uSg 500 lt n (rP w3 a0) (hfi w3 a0 10)).1)) → rS w5 a0 lt n) (s10 : ∀ w1 : mH, (uEnd w w1 a0 (uNum 0 199 lt n (rP w a0) (hfi w a0 10))) → ∀ w2 : mH, (w2 = sai w1 a0_11 x3.toNatClampNeg ((uNum 0 199 lt n (rP w a0) (hfi w a0 10)).1)) → ∀ w3 : mH, (uEnd w2 w3 a0 (uWan 58 lt n (rP w2 a0) (hfi w2 a0 10))) → ∀ w4 : mH, (uEnd w3 w4 a0 (uSg 500 lt n (rP w3 a0) (hfi w3 a0 10))) → ∀ w5 : mH, (w5 = sai w4 a0_11 ((x3 + 1).toNatClampNeg) ((uSg 500 lt n (rP w3 a0) (hfi w3 a0 10)).1)) → rP w5 a0 ≤ 900) (s11 : ∀ w1 : mH, (uEnd w w1 a0 (uNum 0 199 lt n (rP w a0) (hfi w a0 10))) → ∀ w2 : mH, (w2 = sai w1 a0_11 x3.toNatClampNeg ((uNum 0 199 lt n (rP w a0) (hfi w a0 10)).1)) → ∀ w3 : mH, (uEnd w2 w3 a0 (uWan 58 lt n (rP w2 a0) (hfi w2 a0 10))) → ∀ w4 : mH, (uEnd w3 w4 a0 (uSg 500 lt n (rP w3 a0) (hfi w3 a0 10))) → ∀ w5 : mH, (w5 = sai w4 a0_11 ((x3 + 1).toNatClampNeg) ((uSg 500 lt n (rP w3 a0) (hfi w3 a0 10)).1)) → ∀ w6 : mH, (uEnd w5 w6 a0 (uWan 42 lt n (rP w5 a0) (hfi w5 a0 10))) → rS w6 a0 lt n) (s12 : ∀ w1 : mH, (uEnd w w1 a0 (uNum 0 199 lt n (rP w a0) (hfi w a0 10))) → ∀ w2 : mH, (w2 = sai w1 a0_11 x3.toNatClampNeg ((uNum 0 199 lt n (rP w a0) (hfi w a0 10)).1)) → ∀ w3 : mH, (uEnd w2 w3 a0 (uWan 58 lt n (rP w2 a0) (hfi w2 a0 10))) → ∀ w4 : mH, (uEnd w3 w4 a0 (uSg 500 lt n (rP w3 a0) (hfi w3 a0 10))) → ∀ w5 : mH, (w5 = sai w4 a0_11 ((x3 + 1).toNatClampNeg) ((uSg 500 lt n (rP w3 a0) (hfi w3 a0 10)).1)) → ∀ w6 : mH, (uEnd w5 w6 a0 (uWan 42 lt n (rP w5 a0) (hfi w5 a0 10))) → rP w6 a0 ≤ 900) (s13 : ∀ w1 : mH, (uEnd w w1 a0 (uNum 0 199 lt n (rP w a0) (hfi w a0 10))) → ∀ w2 : mH, (w2 = sai w1 a0_11 x3.toNatClampNeg ((uNum 0 199 lt n (rP w a0) (hfi w a0 10)).1)) → ∀ w3 : mH, (uEnd w2 w3 a0 (uWan 58 lt n (rP w2 a0) (hfi w2 a0 10))) → ∀ w4 : mH, (uEnd w3 w4 a0 (uSg 500 lt n (rP w3 a0) (hfi w3 a0 10))) → ∀ w5 : mH, (w5 = sai w4 a0_11 ((x3 + 1).toNatClampNeg) ((uSg 500 lt n (rP w3 a0) (hfi w3 a0 10)).1)) → ∀ w6 : mH, (uEnd w5 w6 a0 (uWan 42 lt n (rP w5 a0) (hfi w5 a0 10))) → ∀ w7 : mH, (uEnd w6 w7 a0 (uNum 1 99 lt n (rP w6 a0) (hfi w6 a0 10))) → vp_in (x3 + 2) n_a0_11) (s14 : vp_in 65 n_a0_11) (k1 : ∀ w1 : mH, (uEnd w w1 a0 (uNum 0 199 lt n (rP w a0) (hfi w a0 10))) → ∀ w2 : mH, (w2 = sai w1 a0_11 x3.toNatClampNeg ((uNum 0 199 lt n (rP w a0) (hfi w a0 10)).1)) → ∀ w3 : mH, (uEnd w2 w3 a0 (uWan 58 lt n (rP w2 a0) (hfi w2 a0 10))) → ∀ w4 : mH, (uEnd w3 w4 a0 (uSg 500 lt n (rP w3 a0) (hfi w3 a0 10))) → ∀ w5 : mH, (w5 = sai w4 a0_11 ((x3 + 1).toNatClampNeg) ((uSg 500 lt n (rP w3 a0) (hfi w3 a0 10)).1)) → ∀ w6 : mH, (uEnd w5 w6 a0 (uWan 42 lt n (rP w5 a0) (hfi w5 a0 10))) → ∀ w7 : mH, (uEnd w6 w7 a0 (uNum 1 99 lt n (rP w6 a0) (hfi w6 a0 10))) → ∀ w8 : mH, (w8 = sai w7 a0_11 ((x3 + 2).toNatClampNeg) ((uNum 1 99 lt n (rP w6 a0) (hfi w6 a0 10)).1)) → ∀ w9 : mH, (w9 = sai w8 a0_11 65 ((hai w8 a0_11 65) + 1)) → mW G mX11_part 5 0 0 281 [(0, .ref a0), (1, .int x1), (2, .int x2), (3, .int x3)] [] w9 Φ) : mW G mX11_part 5 0 0 145 [(0, .ref a0), (1, .int x1), (2, .int x2), (3, .int x3)] [] w Φ := by
  refine mW_aload_n (j := 0) dX11_part_145 rfl rfl ?_
  refine mW_getR dX11_part_146 f_X11_33 h1 rfl h2 ?_
  refine mW_iload_n (j := 3) dX11_part_149 rfl rfl ?_
  refine mW_aload_n (j := 0) dX11_part_150 rfl rfl ?_
  refine mW_iconst (v := 0) dX11_part_151 (by decide) ?_
  refine mW_sipush (v := 199) dX11_part_152 (by decide) ?_
  refine mW_callV (As := [.int 0, .int 199]) (rest := [.int x3, .ref a0_11]) (kc2 := 0) (ks2 := 0) dX11_part_155 l_X11_159 rfl h1 rfl (by decide) (rX11_number (w := w) (a0 := a0) (x1 := 0) (x2 := 199) h3 s1 s2) (Nat.le_of_ble_eq_true rfl) (by decide) rfl rfl mP_x (mP_k (fun w1 q1 => ?_))
  refine mW_iastJ dX11_part_158 (s2k (mS2.of q1.1.1) h4) (s3 w1 q1) rfl ?_
  refine mW_nm (fun w2 e1 => ?_)
  refine mW_aload_n (j := 0) dX11_part_159 rfl rfl ?_
  refine mW_bipush (v := 58) dX11_part_160 (by decide) ?_
  refine mW_callV (As := [.int 58]) (rest := []) (kc2 := 0) (ks2 := 0) dX11_part_162 l_X11_163 rfl (s2k (S2_sai e1) (s2k (mS2.of q1.1.1) h1)) rfl (by decide) (rX11_wants (w := w2) (a0 := a0) (x1 := 58) (zRef_s2 (S2_sai e1) (zRef_s2 (mS2.of q1.1.1) h3)) (s4 w1 q1 w2 e1) (s5 w1 q1 w2 e1)) (Nat.le_of_ble_eq_true rfl) (by decide) rfl rfl mP_x (mP_k (fun w3 q2 => ?_))
  refine mW_aload_n (j := 0) dX11_part_165 rfl rfl ?_
  refine mW_getR dX11_part_166 f_X11_33 (s2k (mS2.of q2.1.1) (s2k (S2_sai e1) (s2k (mS2.of q1.1.1) h1))) rfl (s2r (mS2.of q2.1.1) (s2r (S2_sai e1) (s2r (mS2.of q1.1.1) h2))) ?_
  refine mW_iload_n (j := 3) dX11_part_169 rfl rfl ?_
  refine mW_iconst (v := 1) dX11_part_170 (by decide) ?_
  refine mW_iadd dX11_part_171 ?_
  refine mW_aload_n (j := 0) dX11_part_172 rfl rfl ?_
  refine mW_sipush (v := 500) dX11_part_173 (by decide) ?_
  refine mW_callV (As := [.int 500]) (rest := [.int (x3 + 1), .ref a0_11]) (kc2 := 0) (ks2 := 0) dX11_part_176 l_X11_167 rfl (s2k (mS2.of q2.1.1) (s2k (S2_sai e1) (s2k (mS2.of q1.1.1) h1))) rfl (by decide) (rX11_signed (w := w3) (a0 := a0) (x1 := 500) (zRef_s2 (mS2.of q2.1.1) (zRef_s2 (S2_sai e1) (zRef_s2 (mS2.of q1.1.1) h3))) (s6 w1 q1 w2 e1 w3 q2) (s7 w1 q1 w2 e1 w3 q2)) (Nat.le_of_ble_eq_true rfl) (by decide) rfl rfl mP_x (mP_k (fun w4 q3 => ?_))
  refine mW_iastJ dX11_part_179 (s2k (mS2.of q3.1.1) (s2k (mS2.of q2.1.1) (s2k (S2_sai e1) (s2k (mS2.of q1.1.1) h4)))) (s8 w1 q1 w2 e1 w3 q2 w4 q3) rfl ?_
  refine mW_nm (fun w5 e2 => ?_)
  refine mW_aload_n (j := 0) dX11_part_180 rfl rfl ?_
  refine mW_bipush (v := 42) dX11_part_181 (by decide) ?_
  refine mW_callV (As := [.int 42]) (rest := []) (kc2 := 0) (ks2 := 0) dX11_part_183 l_X11_163 rfl (s2k (S2_sai e2) (s2k (mS2.of q3.1.1) (s2k (mS2.of q2.1.1) (s2k (S2_sai e1) (s2k (mS2.of q1.1.1) h1))))) rfl (by decide) (rX11_wants (w := w5) (a0 := a0) (x1 := 42) (zRef_s2 (S2_sai e2) (zRef_s2 (mS2.of q3.1.1) (zRef_s2 (mS2.of q2.1.1) (zRef_s2 (S2_sai e1) (zRef_s2 (mS2.of q1.1.1) h3))))) (s9 w1 q1 w2 e1 w3 q2 w4 q3 w5 e2) (s10 w1 q1 w2 e1 w3 q2 w4 q3 w5 e2)) (Nat.le_of_ble_eq_true rfl) (by decide) rfl rfl mP_x (mP_k (fun w6 q4 => ?_))
  refine mW_aload_n (j := 0) dX11_part_186 rfl rfl ?_
  refine mW_getR dX11_part_187 f_X11_33 (s2k (mS2.of q4.1.1) (s2k (S2_sai e2) (s2k (mS2.of q3.1.1) (s2k (mS2.of q2.1.1) (s2k (S2_sai e1) (s2k (mS2.of q1.1.1) h1)))))) rfl (s2r (mS2.of q4.1.1) (s2r (S2_sai e2) (s2r (mS2.of q3.1.1) (s2r (mS2.of q2.1.1) (s2r (S2_sai e1) (s2r (mS2.of q1.1.1) h2)))))) ?_
  refine mW_iload_n (j := 3) dX11_part_190 rfl rfl ?_
  refine mW_iconst (v := 2) dX11_part_191 (by decide) ?_
  refine mW_iadd dX11_part_192 ?_
  refine mW_aload_n (j := 0) dX11_part_193 rfl rfl ?_
  refine mW_iconst (v := 1) dX11_part_194 (by decide) ?_
  refine mW_bipush (v := 99) dX11_part_195 (by decide) ?_
  refine mW_callV (As := [.int 1, .int 99]) (rest := [.int (x3 + 2), .ref a0_11]) (kc2 := 0) (ks2 := 0) dX11_part_197 l_X11_159 rfl (s2k (mS2.of q4.1.1) (s2k (S2_sai e2) (s2k (mS2.of q3.1.1) (s2k (mS2.of q2.1.1) (s2k (S2_sai e1) (s2k (mS2.of q1.1.1) h1)))))) rfl (by decide) (rX11_number (w := w6) (a0 := a0) (x1 := 1) (x2 := 99) (zRef_s2 (mS2.of q4.1.1) (zRef_s2 (S2_sai e2) (zRef_s2 (mS2.of q3.1.1) (zRef_s2 (mS2.of q2.1.1) (zRef_s2 (S2_sai e1) (zRef_s2 (mS2.of q1.1.1) h3)))))) (s11 w1 q1 w2 e1 w3 q2 w4 q3 w5 e2 w6 q4) (s12 w1 q1 w2 e1 w3 q2 w4 q3 w5 e2 w6 q4)) (Nat.le_of_ble_eq_true rfl) (by decide) rfl rfl mP_x (mP_k (fun w7 q5 => ?_))
  refine mW_iastJ dX11_part_200 (s2k (mS2.of q5.1.1) (s2k (mS2.of q4.1.1) (s2k (S2_sai e2) (s2k (mS2.of q3.1.1) (s2k (mS2.of q2.1.1) (s2k (S2_sai e1) (s2k (mS2.of q1.1.1) h4))))))) (s13 w1 q1 w2 e1 w3 q2 w4 q3 w5 e2 w6 q4 w7 q5) rfl ?_
  refine mW_nm (fun w8 e3 => ?_)
  refine mW_aload_n (j := 0) dX11_part_201 rfl rfl ?_
  refine mW_getR dX11_part_202 f_X11_33 (s2k (S2_sai e3) (s2k (mS2.of q5.1.1) (s2k (mS2.of q4.1.1) (s2k (S2_sai e2) (s2k (mS2.of q3.1.1) (s2k (mS2.of q2.1.1) (s2k (S2_sai e1) (s2k (mS2.of q1.1.1) h1)))))))) rfl (s2r (S2_sai e3) (s2r (mS2.of q5.1.1) (s2r (mS2.of q4.1.1) (s2r (S2_sai e2) (s2r (mS2.of q3.1.1) (s2r (mS2.of q2.1.1) (s2r (S2_sai e1) (s2r (mS2.of q1.1.1) h2)))))))) ?_
  refine mW_bipush (v := 65) dX11_part_205 (by decide) ?_
  refine mW_dup2 dX11_part_207 rfl rfl ?_
  refine mW_ialdJ dX11_part_208 (s2k (S2_sai e3) (s2k (mS2.of q5.1.1) (s2k (mS2.of q4.1.1) (s2k (S2_sai e2) (s2k (mS2.of q3.1.1) (s2k (mS2.of q2.1.1) (s2k (S2_sai e1) (s2k (mS2.of q1.1.1) h4)))))))) s14 (j := 65) (by decide) ?_
  refine mW_iconst (v := 1) dX11_part_209 (by decide) ?_
  refine mW_iadd dX11_part_210 ?_
  refine mW_iastJ dX11_part_211 (s2k (S2_sai e3) (s2k (mS2.of q5.1.1) (s2k (mS2.of q4.1.1) (s2k (S2_sai e2) (s2k (mS2.of q3.1.1) (s2k (mS2.of q2.1.1) (s2k (S2_sai e1) (s2k (mS2.of q1.1.1) h4)))))))) s14 (j := 65) (by decide) ?_
  refine mW_nm (fun w9 e4 => ?_)
  refine mW_goto (tgt := 281) dX11_part_212 (by decide) ?_
  exact k1 w1 q1 w2 e1 w3 q2 w4 q3 w5 e2 w6 q4 w7 q5 w8 e3 w9 e4
set_option maxHeartbeats 4000000 in
set_option maxRecDepth 100000 in
theorem gX11_part_215 {G : mG} {w : mH} {Φ : mF} {a0 : Nat} {x1 x2 x3 : Int32} {lt : Nat → Nat} {n a0_11 n_a0_11 : Nat} (h1 : hk w a0 = (11, 0)) (h2 : hfr w a0 11 = some a0_11) (h3 : hk w a0_11 = (16, n_a0_11)) (s1 : vp_in x3 n_a0_11) (h4 : zRef w a0) (s2 : ∀ w1 : mH, (w1 = sai w a0_11 x3.toNatClampNeg x2) → rS w1 a0 lt n) (s3 : ∀ w1 : mH, (w1 = sai w a0_11 x3.toNatClampNeg x2) → rP w1 a0 ≤ 900) (s4 : ∀ w1 : mH, (w1 = sai w a0_11 x3.toNatClampNeg x2) → ∀ w2 : mH, (uEnd w1 w2 a0 (uNum 1 99 lt n (rP w1 a0) (hfi w1 a0 10))) → vp_in (x3 + 1) n_a0_11) (s5 : ∀ w1 : mH, (w1 = sai w a0_11 x3.toNatClampNeg x2) → ∀ w2 : mH, (uEnd w1 w2 a0 (uNum 1 99 lt n (rP w1 a0) (hfi w1 a0 10))) → ∀ w3 : mH, (w3 = sai w2 a0_11 ((x3 + 1).toNatClampNeg) ((uNum 1 99 lt n (rP w1 a0) (hfi w1 a0 10)).1)) → vp_in (x3 + 2) n_a0_11) (k1 : ∀ w1 : mH, (w1 = sai w a0_11 x3.toNatClampNeg x2) → ∀ w2 : mH, (uEnd w1 w2 a0 (uNum 1 99 lt n (rP w1 a0) (hfi w1 a0 10))) → ∀ w3 : mH, (w3 = sai w2 a0_11 ((x3 + 1).toNatClampNeg) ((uNum 1 99 lt n (rP w1 a0) (hfi w1 a0 10)).1)) → ∀ w4 : mH, (w4 = sai w3 a0_11 ((x3 + 2).toNatClampNeg) 0) → (x2 ≤ 0) → mW G mX11_part 5 0 0 270 [(0, .ref a0), (1, .int x1), (2, .int x2), (3, .int x3)] [] w4 Φ) (k2 : ∀ w1 : mH, (w1 = sai w a0_11 x3.toNatClampNeg x2) → ∀ w2 : mH, (uEnd w1 w2 a0 (uNum 1 99 lt n (rP w1 a0) (hfi w1 a0 10))) → ∀ w3 : mH, (w3 = sai w2 a0_11 ((x3 + 1).toNatClampNeg) ((uNum 1 99 lt n (rP w1 a0) (hfi w1 a0 10)).1)) → ∀ w4 : mH, (w4 = sai w3 a0_11 ((x3 + 2).toNatClampNeg) 0) → (¬ (x2 ≤ 0)) → mW G mX11_part 5 0 0 250 [(0, .ref a0), (1, .int x1), (2, .int x2), (3, .int x3)] [] w4 Φ) : mW G mX11_part 5 0 0 215 [(0, .ref a0), (1, .int x1), (2, .int x2), (3, .int x3)] [] w Φ := by
  refine mW_aload_n (j := 0) dX11_part_215 rfl rfl ?_
  refine mW_getR dX11_part_216 f_X11_33 h1 rfl h2 ?_
  refine mW_iload_n (j := 3) dX11_part_219 rfl rfl ?_
  refine mW_iload_n (j := 2) dX11_part_220 rfl rfl ?_
  refine mW_iastJ dX11_part_221 h3 s1 rfl ?_
  refine mW_nm (fun w1 e1 => ?_)
  refine mW_aload_n (j := 0) dX11_part_222 rfl rfl ?_
  refine mW_getR dX11_part_223 f_X11_33 (s2k (S2_sai e1) h1) rfl (s2r (S2_sai e1) h2) ?_
  refine mW_iload_n (j := 3) dX11_part_226 rfl rfl ?_
  refine mW_iconst (v := 1) dX11_part_227 (by decide) ?_
  refine mW_iadd dX11_part_228 ?_
  refine mW_aload_n (j := 0) dX11_part_229 rfl rfl ?_
  refine mW_iconst (v := 1) dX11_part_230 (by decide) ?_
  refine mW_bipush (v := 99) dX11_part_231 (by decide) ?_
  refine mW_callV (As := [.int 1, .int 99]) (rest := [.int (x3 + 1), .ref a0_11]) (kc2 := 0) (ks2 := 0) dX11_part_233 l_X11_159 rfl (s2k (S2_sai e1) h1) rfl (by decide) (rX11_number (w := w1) (a0 := a0) (x1 := 1) (x2 := 99) (zRef_s2 (S2_sai e1) h4) (s2 w1 e1) (s3 w1 e1)) (Nat.le_of_ble_eq_true rfl) (by decide) rfl rfl mP_x (mP_k (fun w2 q1 => ?_))
  refine mW_iastJ dX11_part_236 (s2k (mS2.of q1.1.1) (s2k (S2_sai e1) h3)) (s4 w1 e1 w2 q1) rfl ?_
  refine mW_nm (fun w3 e2 => ?_)
  refine mW_aload_n (j := 0) dX11_part_237 rfl rfl ?_
  refine mW_getR dX11_part_238 f_X11_33 (s2k (S2_sai e2) (s2k (mS2.of q1.1.1) (s2k (S2_sai e1) h1))) rfl (s2r (S2_sai e2) (s2r (mS2.of q1.1.1) (s2r (S2_sai e1) h2))) ?_
  refine mW_iload_n (j := 3) dX11_part_241 rfl rfl ?_
  refine mW_iconst (v := 2) dX11_part_242 (by decide) ?_
  refine mW_iadd dX11_part_243 ?_
  refine mW_iconst (v := 0) dX11_part_244 (by decide) ?_
  refine mW_iastJ dX11_part_245 (s2k (S2_sai e2) (s2k (mS2.of q1.1.1) (s2k (S2_sai e1) h3))) (s5 w1 e1 w2 q1 w3 e2) rfl ?_
  refine mW_nm (fun w4 e3 => ?_)
  refine mW_iload_n (j := 2) dX11_part_246 rfl rfl ?_
  refine mW_if_le (tgt := 270) dX11_part_247 (by decide) (fun c1 => ?_) (fun c1 => ?_)
  · exact k1 w1 e1 w2 q1 w3 e2 w4 e3 c1
  · exact k2 w1 e1 w2 q1 w3 e2 w4 e3 c1
set_option maxHeartbeats 4000000 in
set_option maxRecDepth 100000 in
theorem gX11_part_250 {G : mG} {w : mH} {Φ : mF} {a0 : Nat} {x1 x2 x3 : Int32} {lt : Nat → Nat} {n a0_11 n_a0_11 : Nat} (h1 : hk w a0 = (11, 0)) (h2 : zRef w a0) (s1 : rS w a0 lt n) (s2 : rP w a0 ≤ 900) (h3 : hfr w a0 11 = some a0_11) (s3 : ∀ w1 : mH, (uEnd w w1 a0 (uWan 58 lt n (rP w a0) (hfi w a0 10))) → rS w1 a0 lt n) (s4 : ∀ w1 : mH, (uEnd w w1 a0 (uWan 58 lt n (rP w a0) (hfi w a0 10))) → rP w1 a0 ≤ 800) (h4 : hk w a0_11 = (16, n_a0_11)) (s5 : ∀ w1 : mH, (uEnd w w1 a0 (uWan 58 lt n (rP w a0) (hfi w a0 10))) → ∀ w2 : mH, (uEnd w1 w2 a0 (uSg 50 lt n (rP w1 a0) (hfi w1 a0 10))) → vp_in (x3 + 2) n_a0_11) (k1 : ∀ w1 : mH, (uEnd w w1 a0 (uWan 58 lt n (rP w a0) (hfi w a0 10))) → ∀ w2 : mH, (uEnd w1 w2 a0 (uSg 50 lt n (rP w1 a0) (hfi w1 a0 10))) → ∀ w3 : mH, (w3 = sai w2 a0_11 ((x3 + 2).toNatClampNeg) ((uSg 50 lt n (rP w1 a0) (hfi w1 a0 10)).1)) → mW G mX11_part 5 0 0 270 [(0, .ref a0), (1, .int x1), (2, .int x2), (3, .int x3)] [] w3 Φ) : mW G mX11_part 5 0 0 250 [(0, .ref a0), (1, .int x1), (2, .int x2), (3, .int x3)] [] w Φ := by
  refine mW_aload_n (j := 0) dX11_part_250 rfl rfl ?_
  refine mW_bipush (v := 58) dX11_part_251 (by decide) ?_
  refine mW_callV (As := [.int 58]) (rest := []) (kc2 := 0) (ks2 := 0) dX11_part_253 l_X11_163 rfl h1 rfl (by decide) (rX11_wants (w := w) (a0 := a0) (x1 := 58) h2 s1 s2) (Nat.le_of_ble_eq_true rfl) (by decide) rfl rfl mP_x (mP_k (fun w1 q1 => ?_))
  refine mW_aload_n (j := 0) dX11_part_256 rfl rfl ?_
  refine mW_getR dX11_part_257 f_X11_33 (s2k (mS2.of q1.1.1) h1) rfl (s2r (mS2.of q1.1.1) h3) ?_
  refine mW_iload_n (j := 3) dX11_part_260 rfl rfl ?_
  refine mW_iconst (v := 2) dX11_part_261 (by decide) ?_
  refine mW_iadd dX11_part_262 ?_
  refine mW_aload_n (j := 0) dX11_part_263 rfl rfl ?_
  refine mW_bipush (v := 50) dX11_part_264 (by decide) ?_
  refine mW_callV (As := [.int 50]) (rest := [.int (x3 + 2), .ref a0_11]) (kc2 := 0) (ks2 := 0) dX11_part_266 l_X11_167 rfl (s2k (mS2.of q1.1.1) h1) rfl (by decide) (rX11_signed (w := w1) (a0 := a0) (x1 := 50) (zRef_s2 (mS2.of q1.1.1) h2) (s3 w1 q1) (s4 w1 q1)) (Nat.le_of_ble_eq_true rfl) (by decide) rfl rfl mP_x (mP_k (fun w2 q2 => ?_))
  refine mW_iastJ dX11_part_269 (s2k (mS2.of q2.1.1) (s2k (mS2.of q1.1.1) h4)) (s5 w1 q1 w2 q2) rfl ?_
  refine mW_nm (fun w3 e1 => ?_)
  exact k1 w1 q1 w2 q2 w3 e1
set_option maxHeartbeats 4000000 in
set_option maxRecDepth 100000 in
theorem gX11_part_270 {G : mG} {w : mH} {Φ : mF} {a0 : Nat} {x1 x2 x3 : Int32} {lt : Nat → Nat} {n a0_11 n_a0_11 : Nat} (h1 : hk w a0 = (11, 0)) (h2 : hfr w a0 11 = some a0_11) (h3 : hk w a0_11 = (16, n_a0_11)) (s1 : vp_in 40 n_a0_11) (k1 : ∀ w1 : mH, (w1 = sai w a0_11 40 ((hai w a0_11 40) + 1)) → mW G mX11_part 5 0 0 281 [(0, .ref a0), (1, .int x1), (2, .int x2), (3, .int x3)] [] w1 Φ) : mW G mX11_part 5 0 0 270 [(0, .ref a0), (1, .int x1), (2, .int x2), (3, .int x3)] [] w Φ := by
  refine mW_aload_n (j := 0) dX11_part_270 rfl rfl ?_
  refine mW_getR dX11_part_271 f_X11_33 h1 rfl h2 ?_
  refine mW_bipush (v := 40) dX11_part_274 (by decide) ?_
  refine mW_dup2 dX11_part_276 rfl rfl ?_
  refine mW_ialdJ dX11_part_277 h3 s1 (j := 40) (by decide) ?_
  refine mW_iconst (v := 1) dX11_part_278 (by decide) ?_
  refine mW_iadd dX11_part_279 ?_
  refine mW_iastJ dX11_part_280 h3 s1 (j := 40) (by decide) ?_
  refine mW_nm (fun w1 e1 => ?_)
  exact k1 w1 e1
theorem u1572 : (Cond.fieldLink "LineFollowerBenchModel" 170 "LineFollowerBenchModel" "readMany" "I" : Cond) ∈ mTs := mTs_in 1572 (by decide +kernel) (by decide +kernel)
theorem f_X11_170 : mFld "LineFollowerBenchModel" 170 11 12 := ⟨RX11, TX11, 36, "LineFollowerBenchModel", rfl, by decide, in_X11, u1572, Or.inl rfl, by decide⟩
theorem p_X11_170 : mPut "LineFollowerBenchModel" 170 11 12 (.int) false := ⟨RX11, TX11, 36, "LineFollowerBenchModel", tyX11, rfl, by decide, in_X11, u1572, Or.inl rfl, by decide, tyX11_ok, nmX11, by decide +kernel, rfl, fun h => by cases h⟩
theorem ob_11_12 (w : mH) (a : Nat) (v : Int32) : mOb (sfi w a 12 v) a 11 = (mOb w a 11).set 12 (.int v) := by simp [mOb, hfi_sfi, hfl_sfi, hfr_sfi, up2]
set_option maxHeartbeats 4000000 in
set_option maxRecDepth 100000 in
theorem gX11_part_281 {G : mG} {w : mH} {Φ : mF} {a0 : Nat} {x1 x2 x3 : Int32} {lt : Nat → Nat} {n : Nat} (h1 : hk w a0 = (11, 0)) (k1 : ∀ w1 : mH, (w1 = sfi w a0 12 ((hfi w a0 12) + 1)) → Φ (.inl none) w1) : mW G mX11_part 5 0 0 281 [(0, .ref a0), (1, .int x1), (2, .int x2), (3, .int x3)] [] w Φ := by
  refine mW_aload_n (j := 0) dX11_part_281 rfl rfl ?_
  refine mW_dup dX11_part_282 rfl ?_
  refine mW_get dX11_part_283 f_X11_170 h1 rfl ?_
  refine mW_iconst (v := 1) dX11_part_286 (by decide) ?_
  refine mW_iadd dX11_part_287 ?_
  refine mW_put (ty := .int) (w2 := sfi w a0 12 ((hfi w a0 12) + 1)) dX11_part_288 p_X11_170 h1 (Nat.le_of_ble_eq_true rfl) (by first | rfl | decide | (repeat' split) <;> rfl) rfl (hN_sfi _ _ _ _) (hk_sfi _ _ _ _) (mE_sfi h1 (by decide) (ob_11_12 _ _ _)) ?_
  refine mW_nm (fun w1 e1 => ?_)
  exact mW_vret dX11_part_291 rfl (k1 w1 e1)
/-! the reference's reading: a part of the text -/
def pS (w0 w : mH) (a : Nat) (lt : Nat → Nat) (n p : Nat) (fl : Int32) (B : Nat → Int32) (m : Int32) : Prop := xF [9, 10, 12] [6] a w0 w ∧ rS w a lt n ∧ rP w a = p ∧ hfi w a 10 = fl ∧ hai w (a + 6) = B ∧ hfi w a 12 = m
theorem pS_u {w0 w w1 : mH} {a n p K : Nat} {lt : Nat → Nat} {fl m : Int32} {B : Nat → Int32} {r : Int32 × Nat × Int32} (h : pS w0 w a lt n p fl B m) (u : uEnd w w1 a r) (hr : r.2.1 ≤ K) (hK : K ≤ 1000) : pS w0 w1 a lt n r.2.1 r.2.2 B m := by
  obtain ⟨F, g1, g2, g3, g4, g5⟩ := h
  obtain ⟨k1, k2, k3⟩ := u_nx g1 u hr hK
  exact ⟨F.tr (u.1.wide (by decide) (by decide)), k1, k2, k3, (u.1.ai (by decide)).trans g4, (u.1.fi (by decide)).trans g5⟩
theorem pS_s {w0 w w1 : mH} {a n p k : Nat} {lt : Nat → Nat} {fl m v : Int32} {B : Nat → Int32} (h : pS w0 w a lt n p fl B m) (e : w1 = sai w (a + 6) k v) : pS w0 w1 a lt n p fl (upd B k v) m := by
  obtain ⟨F, g1, g2, g3, g4, g5⟩ := h
  have n5 : a + 5 ≠ a + 6 := by omega
  refine ⟨by rw [e]; exact xF_sai F (by decide), rS_at g1 (by rw [e, e_hai_sai, up2_a _ _ _ n5]) (by rw [e]; rfl) (p := (hfi w a 9).toNatClampNeg) (by rw [e]; exact g1.2.2.2.1) g1.2.2.2.2, by rw [e]; exact g2, by rw [e]; exact g3, by rw [e, e_hai_sai, up2_row, g4], by rw [e]; exact g5⟩
theorem nOK_v (lo hi : Int32) (cv : Nat × Nat) : nOK 1 lo hi cv = if cv.1 = 0 then 0 else if vX10_isWithin (nI cv.2) lo hi = 0 then 0 else 1 := by
  unfold nOK
  rw [Int32.one_mul]
  by_cases h : cv.1 = 0
  · rw [if_pos h, if_neg (by omega)]
  · rw [if_neg h, if_pos (by omega)]
theorem uNum_p {lo hi : Int32} {lt : Nat → Nat} {n p : Nat} : (∀ x, pNum 1 lo hi lt n p = .inl x → uNum lo hi lt n p (-1) = (x.2, x.1, -1)) ∧ ∀ q, pNum 1 lo hi lt n p = .inr q → (uNum lo hi lt n p (-1)).2.2 = nI q ∧ q ≤ p := by
  have h1 : ¬ (0 : Int32) ≤ -1 := by decide
  by_cases h0 : (num lt n p).1 = 0
  · have e : nOK 1 lo hi (num lt n p) = 0 := by rw [nOK_v, if_pos h0]
    have e1 : pNum 1 lo hi lt n p = .inr p := by unfold pNum; rw [if_pos e]
    have e2 : uNum lo hi lt n p (-1) = (0, p, nI p) := by unfold uNum; rw [if_neg h1, if_pos h0]
    rw [e1, e2]
    exact ⟨fun x hx => (by cases hx), fun q hq => (by cases hq; exact ⟨rfl, Nat.le_refl _⟩)⟩
  · by_cases hb : vX10_isWithin (nI (num lt n p).2) lo hi = 0
    · have e : nOK 1 lo hi (num lt n p) = 0 := by rw [nOK_v, if_neg h0, if_pos hb]
      have e1 : pNum 1 lo hi lt n p = .inr p := by unfold pNum; rw [if_pos e]
      have e2 : uNum lo hi lt n p (-1) = (nI (num lt n p).2, p + (num lt n p).1, nI p) := by unfold uNum; rw [if_neg h1, if_neg h0, if_pos hb]
      rw [e1, e2]
      exact ⟨fun x hx => (by cases hx), fun q hq => (by cases hq; exact ⟨rfl, Nat.le_refl _⟩)⟩
    · have e : ¬ nOK 1 lo hi (num lt n p) = 0 := by rw [nOK_v, if_neg h0, if_neg hb]; decide
      have e1 : pNum 1 lo hi lt n p = .inl (p + (num lt n p).1, nI (num lt n p).2) := by unfold pNum; rw [if_neg e, Int32.one_mul]
      have e2 : uNum lo hi lt n p (-1) = (nI (num lt n p).2, p + (num lt n p).1, -1) := by unfold uNum; rw [if_neg h1, if_neg h0, if_neg hb]
      rw [e1, e2]
      exact ⟨fun x hx => (by cases hx; rfl), fun q hq => (by cases hq)⟩
theorem uNum_f {lo hi : Int32} {lt : Nat → Nat} {n p q : Nat} (hq : q ≤ 1000) : uNum lo hi lt n p (nI q) = (0, p, nI q) := by unfold uNum; rw [if_pos (nI_pos' (by omega))]
theorem uWan_f {c : Int32} {lt : Nat → Nat} {n p q : Nat} (hq : q ≤ 1000) : uWan c lt n p (nI q) = (0, p + 1, nI q) := by unfold uWan; rw [if_pos (nI_pos' (by omega))]
theorem uSg_f {x : Int32} {lt : Nat → Nat} {n p q : Nat} (hq : q ≤ 1000) : uSg x lt n p (nI q) = (0, p, nI q) := by unfold uSg; rw [if_pos (nI_pos' (by omega)), uNum_f hq]
theorem uWan_p {c : Nat} {lt : Nat → Nat} {n p : Nat} (hl : ∀ i, i < n → 33 ≤ lt i ∧ lt i ≤ 126) (h0 : c ≠ 0) (h1 : c ≤ 126) : (∀ x, pCh c lt n p = .inl x → uWan (nI c) lt n p (-1) = (0, x, -1)) ∧ ∀ q, pCh c lt n p = .inr q → (uWan (nI c) lt n p (-1)).2.2 = nI q ∧ q ≤ p := by
  have hm : ¬ (0 : Int32) ≤ -1 := by decide
  have hi := hI_c (p := p) hl h0 h1
  unfold pCh uWan
  rw [if_neg hm]
  by_cases h : hc lt n p = c
  · rw [if_pos h, if_pos (hi.mpr h)]
    exact ⟨fun x hx => (by cases hx; rfl), fun q hq => (by cases hq)⟩
  · rw [if_neg h, if_neg (fun q => h (hi.mp q))]
    exact ⟨fun x hx => (by cases hx), fun q hq => (by cases hq; exact ⟨rfl, Nat.le_refl _⟩)⟩
theorem iw_pos {h v : Nat} (hh : h ≤ 1000) (hv : v ≤ 1000) : vX10_isWithin (nI v) (-nI h) (nI h) = vX10_isWithin (nI v) 0 (nI h) ∧ vX10_isWithin (-1 * nI v) (-nI h) (nI h) = vX10_isWithin (nI v) 0 (nI h) := by
  have t : ∀ k, k ≤ 1000 → (nI k).toInt = k := fun k hk => nI_toInt (by omega)
  have tn : ∀ k, k ≤ 1000 → (-nI k).toInt = -(k : Int) := fun k hk => by
    rw [Int32.toInt_neg, t k hk]
    exact Int.bmod_eq_of_le (by omega) (by omega)
  have tm : (-1 * nI v) = -nI v := by rw [Int32.neg_mul, Int32.one_mul]
  unfold vX10_isWithin
  rw [tm]
  simp only [Int32.lt_iff_toInt_lt, t h hh, t v hv, tn h hh, tn v hv, show (0 : Int32).toInt = 0 from rfl]
  constructor
  · by_cases q : (h : Int) < v
    · rw [if_neg (by omega), if_pos q, if_neg (by omega)]
    · rw [if_neg (by omega), if_neg q, if_neg (by omega)]
  · by_cases q : (h : Int) < v
    · rw [if_pos (by omega), if_neg (by omega), if_pos q]
    · rw [if_neg (by omega), if_neg (by omega), if_neg (by omega), if_neg q]
theorem pNum_s {h : Nat} {lt : Nat → Nat} {n p : Nat} (hh : h ≤ 1000) : pNum 1 (-nI h) (nI h) lt n p = pNum 1 0 (nI h) lt n p ∧ pNum (-1) (-nI h) (nI h) lt n p = (match pNum 1 0 (nI h) lt n p with | .inl x => .inl (x.1, -x.2) | .inr q => .inr q) := by
  have hv := (num_le lt n p).2
  have i1 := iw_pos (h := h) (v := (num lt n p).2) hh (by omega)
  unfold pNum nOK
  rw [Int32.one_mul, i1.1, i1.2]
  refine ⟨rfl, ?_⟩
  by_cases h0 : 0 < (num lt n p).1
  · rw [if_pos h0]
    by_cases hb : vX10_isWithin (nI (num lt n p).2) 0 (nI h) = 0
    · rw [if_pos hb, if_pos rfl, if_pos rfl]
    · rw [if_neg hb, if_neg (by decide), if_neg (by decide)]
      show _ = Sum.inl (_, -nI _)
      rw [Int32.neg_mul, Int32.one_mul]
  · rw [if_neg h0, if_pos rfl, if_pos rfl]
theorem uSg_p {h : Nat} {lt : Nat → Nat} {n p : Nat} (hh : h ≤ 1000) (hl : ∀ i, i < n → 33 ≤ lt i ∧ lt i ≤ 126) : (∀ x, pSg (nI h) lt n p = .inl x → uSg (nI h) lt n p (-1) = (x.2, x.1, -1)) ∧ ∀ q, pSg (nI h) lt n p = .inr q → (uSg (nI h) lt n p (-1)).2.2 = nI q ∧ q ≤ p + 1 := by
  have hm : ¬ (0 : Int32) ≤ -1 := by decide
  have hi : hI lt n p = 45 ↔ hc lt n p = 45 := hI_c (p := p) (c := 45) hl (by decide) (by decide)
  unfold pSg uSg
  rw [if_neg hm]
  by_cases h45 : hc lt n p = 45
  · rw [if_pos h45, if_pos (hi.mpr h45), (pNum_s hh).2]
    have u := uNum_p (lo := 0) (hi := nI h) (lt := lt) (n := n) (p := p + 1)
    cases e : pNum 1 0 (nI h) lt n (p + 1) with
    | inl y =>
      refine ⟨fun x hx => ?_, fun q hq => (by cases hq)⟩
      cases hx
      rw [u.1 y e]
    | inr y =>
      refine ⟨fun x hx => (by cases hx), fun q hq => ?_⟩
      cases hq
      exact u.2 y e
  · rw [if_neg h45, if_neg (fun q => h45 (hi.mp q)), (pNum_s hh).1]
    have u := uNum_p (lo := 0) (hi := nI h) (lt := lt) (n := n) (p := p)
    exact ⟨u.1, fun q hq => ⟨(u.2 q hq).1, by have := (u.2 q hq).2; omega⟩⟩
/-- a disturbance: what the reference makes of it is what pDis says -/
theorem dis_u {lt : Nat → Nat} {n p : Nat} {B : Nat → Int32} {r1 r3 r5 : Int32 × Nat × Int32} {s2 s4 : Nat × Int32} (hl : ∀ i, i < n → 33 ≤ lt i ∧ lt i ≤ 126) (hn : n ≤ 50) (hp : p ≤ n) (h1 : r1 = uNum 0 199 lt n p (-1)) (h2 : s2 = (uWan 58 lt n r1.2.1 r1.2.2).2) (h3 : r3 = uSg 500 lt n s2.1 s2.2) (h4 : s4 = (uWan 42 lt n r3.2.1 r3.2.2).2) (h5 : r5 = uNum 1 99 lt n s4.1 s4.2) : (∀ x, pDis lt n p B = .inl x → r5.2 = (x.1, -1) ∧ x.2 = addPus B r1.1 r3.1 r5.1) ∧ ∀ q, pDis lt n p B = .inr q → r5.2.2 = nI q := by
  have u1 := uNum_p (lo := 0) (hi := 199) (lt := lt) (n := n) (p := p)
  cases e1 : pNum 1 0 199 lt n p with
  | inr q =>
    obtain ⟨f1, b1⟩ := u1.2 q e1
    rw [← h1] at f1
    have hd : pDis lt n p B = .inr q := by unfold pDis; rw [e1]
    have g2 : s2.2 = nI q := by rw [h2, f1, uWan_f (by omega)]
    have g3 : r3.2.2 = nI q := by rw [h3, g2, uSg_f (by omega)]
    have g4 : s4.2 = nI q := by rw [h4, g3, uWan_f (by omega)]
    have g5 : r5.2.2 = nI q := by rw [h5, g4, uNum_f (by omega)]
    rw [hd]
    exact ⟨fun x hx => (by cases hx), fun q' hq => (by cases hq; exact g5)⟩
  | inl x1 =>
    have hx1 := pNum_le e1 hp
    have f1 := u1.1 x1 e1
    rw [← h1] at f1
    have h2' : s2 = (uWan (nI 58) lt n x1.1 (-1)).2 := by rw [h2, f1]; rfl
    have u2 := uWan_p (c := 58) (p := x1.1) hl (by decide) (by decide)
    cases e2 : pCh 58 lt n x1.1 with
    | inr q =>
      obtain ⟨f2, b2⟩ := u2.2 q e2
      have hd : pDis lt n p B = .inr q := by unfold pDis; simp only [e1, e2]
      have g2 : s2.2 = nI q := by rw [h2']; exact f2
      have g3 : r3.2.2 = nI q := by rw [h3, g2, uSg_f (by omega)]
      have g4 : s4.2 = nI q := by rw [h4, g3, uWan_f (by omega)]
      have g5 : r5.2.2 = nI q := by rw [h5, g4, uNum_f (by omega)]
      rw [hd]
      exact ⟨fun x hx => (by cases hx), fun q' hq => (by cases hq; exact g5)⟩
    | inl x2 =>
      have hx2 := pCh_le e2 (by decide)
      have f2 := u2.1 x2 e2
      have h3' : r3 = uSg (nI 500) lt n x2 (-1) := by rw [h3, h2', f2]; rfl
      have u3 := uSg_p (h := 500) (lt := lt) (n := n) (p := x2) (by decide) hl
      cases e3 : pSg 500 lt n x2 with
      | inr q =>
        obtain ⟨f3, b3⟩ := u3.2 q e3
        have hd : pDis lt n p B = .inr q := by unfold pDis; simp only [e1, e2, e3]
        have g3 : r3.2.2 = nI q := by rw [h3']; exact f3
        have g4 : s4.2 = nI q := by rw [h4, g3, uWan_f (by omega)]
        have g5 : r5.2.2 = nI q := by rw [h5, g4, uNum_f (by omega)]
        rw [hd]
        exact ⟨fun x hx => (by cases hx), fun q' hq => (by cases hq; exact g5)⟩
      | inl x3 =>
        have hx3 := pSg_le e3 hx2
        have f3 := u3.1 x3 e3
        rw [← h3'] at f3
        have h4' : s4 = (uWan (nI 42) lt n x3.1 (-1)).2 := by rw [h4, f3]; rfl
        have u4 := uWan_p (c := 42) (p := x3.1) hl (by decide) (by decide)
        cases e4 : pCh 42 lt n x3.1 with
        | inr q =>
          obtain ⟨f4, b4⟩ := u4.2 q e4
          have hd : pDis lt n p B = .inr q := by unfold pDis; simp only [e1, e2, e3, e4]
          have g4 : s4.2 = nI q := by rw [h4']; exact f4
          have g5 : r5.2.2 = nI q := by rw [h5, g4, uNum_f (by omega)]
          rw [hd]
          exact ⟨fun x hx => (by cases hx), fun q' hq => (by cases hq; exact g5)⟩
        | inl x4 =>
          have hx4 := pCh_le e4 (by decide)
          have f4 := u4.1 x4 e4
          have h5' : r5 = uNum 1 99 lt n x4 (-1) := by rw [h5, h4', f4]
          have u5 := uNum_p (lo := 1) (hi := 99) (lt := lt) (n := n) (p := x4)
          cases e5 : pNum 1 1 99 lt n x4 with
          | inr q =>
            have hd : pDis lt n p B = .inr q := by unfold pDis; simp only [e1, e2, e3, e4, e5]
            rw [hd]
            exact ⟨fun x hx => (by cases hx), fun q' hq => (by cases hq; rw [h5']; exact (u5.2 _ e5).1)⟩
          | inl x5 =>
            have f5 := u5.1 x5 e5
            rw [← h5'] at f5
            have hd : pDis lt n p B = .inl (x5.1, addPus B x1.2 x3.2 x5.2) := by unfold pDis; simp only [e1, e2, e3, e4, e5]
            rw [hd]
            refine ⟨fun x hx => ?_, fun q' hq => (by cases hq)⟩
            cases hx
            rw [f1, f3, f5]
            exact ⟨rfl, rfl⟩
theorem seg0_u {lt : Nat → Nat} {n p : Nat} {B : Nat → Int32} {r1 : Int32 × Nat × Int32} (h1 : r1 = uNum 1 99 lt n p (-1)) : (∀ x, pSeg 0 lt n p B = .inl x → r1.2 = (x.1, -1) ∧ x.2 = addSeg B 0 r1.1 0) ∧ ∀ q, pSeg 0 lt n p B = .inr q → r1.2.2 = nI q := by
  have u1 := uNum_p (lo := 1) (hi := 99) (lt := lt) (n := n) (p := p)
  cases e1 : pNum 1 1 99 lt n p with
  | inr q =>
    have hd : pSeg 0 lt n p B = .inr q := by unfold pSeg; simp only [e1]
    rw [hd]
    exact ⟨fun x hx => (by cases hx), fun q' hq => (by cases hq; rw [h1]; exact (u1.2 _ e1).1)⟩
  | inl x1 =>
    have f1 := u1.1 x1 e1
    rw [← h1] at f1
    have hd : pSeg 0 lt n p B = .inl (x1.1, addSeg B 0 x1.2 0) := by unfold pSeg; simp only [e1, if_true]
    rw [hd]
    refine ⟨fun x hx => ?_, fun q' hq => (by cases hq)⟩
    cases hx
    rw [f1]
    exact ⟨rfl, rfl⟩
theorem seg_u {k : Int32} {lt : Nat → Nat} {n p : Nat} {B : Nat → Int32} {r1 r3 : Int32 × Nat × Int32} {s2 : Nat × Int32} (hk : ¬ k = 0) (hl : ∀ i, i < n → 33 ≤ lt i ∧ lt i ≤ 126) (hn : n ≤ 50) (hp : p ≤ n) (h1 : r1 = uNum 1 99 lt n p (-1)) (h2 : s2 = (uWan 58 lt n r1.2.1 r1.2.2).2) (h3 : r3 = uSg 50 lt n s2.1 s2.2) : (∀ x, pSeg k lt n p B = .inl x → r3.2 = (x.1, -1) ∧ x.2 = addSeg B k r1.1 r3.1) ∧ ∀ q, pSeg k lt n p B = .inr q → r3.2.2 = nI q := by
  have u1 := uNum_p (lo := 1) (hi := 99) (lt := lt) (n := n) (p := p)
  cases e1 : pNum 1 1 99 lt n p with
  | inr q =>
    obtain ⟨f1, b1⟩ := u1.2 q e1
    rw [← h1] at f1
    have hd : pSeg k lt n p B = .inr q := by unfold pSeg; simp only [e1]
    have g2 : s2.2 = nI q := by rw [h2, f1, uWan_f (by omega)]
    have g3 : r3.2.2 = nI q := by rw [h3, g2, uSg_f (by omega)]
    rw [hd]
    exact ⟨fun x hx => (by cases hx), fun q' hq => (by cases hq; exact g3)⟩
  | inl x1 =>
    have hx1 := pNum_le e1 hp
    have f1 := u1.1 x1 e1
    rw [← h1] at f1
    have h2' : s2 = (uWan (nI 58) lt n x1.1 (-1)).2 := by rw [h2, f1]; rfl
    have u2 := uWan_p (c := 58) (p := x1.1) hl (by decide) (by decide)
    cases e2 : pCh 58 lt n x1.1 with
    | inr q =>
      obtain ⟨f2, b2⟩ := u2.2 q e2
      have hd : pSeg k lt n p B = .inr q := by unfold pSeg; simp only [e1, if_neg hk, e2]
      have g2 : s2.2 = nI q := by rw [h2']; exact f2
      have g3 : r3.2.2 = nI q := by rw [h3, g2, uSg_f (by omega)]
      rw [hd]
      exact ⟨fun x hx => (by cases hx), fun q' hq => (by cases hq; exact g3)⟩
    | inl x2 =>
      have hx2 := pCh_le e2 (by decide)
      have f2 := u2.1 x2 e2
      have h3' : r3 = uSg (nI 50) lt n x2 (-1) := by rw [h3, h2', f2]; rfl
      have u3 := uSg_p (h := 50) (lt := lt) (n := n) (p := x2) (by decide) hl
      cases e3 : pSg 50 lt n x2 with
      | inr q =>
        obtain ⟨f3, b3⟩ := u3.2 q e3
        have hd : pSeg k lt n p B = .inr q := by unfold pSeg; simp only [e1, if_neg hk, e2, e3]
        rw [hd]
        exact ⟨fun x hx => (by cases hx), fun q' hq => (by cases hq; rw [h3']; exact f3)⟩
      | inl x3 =>
        have f3 := u3.1 x3 e3
        rw [← h3'] at f3
        have hd : pSeg k lt n p B = .inl (x3.1, addSeg B k x1.2 x3.2) := by unfold pSeg; simp only [e1, if_neg hk, e2, e3]
        rw [hd]
        refine ⟨fun x hx => ?_, fun q' hq => (by cases hq)⟩
        cases hx
        rw [f1, f3]
        exact ⟨rfl, rfl⟩

