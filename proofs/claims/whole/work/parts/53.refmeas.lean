abbrev mX11_measures : mM := (yX11_measures, cX11_measures, 7, (some .int), [])
set_option maxHeartbeats 4000000 in
set_option maxRecDepth 100000 in
theorem gX11_measures_0 {G : mG} {w : mH} {Φ : mF} {a0 : Nat} {x1 : Int32} {a0_15 n_a0_15 : Nat} (h1 : hk w a0 = (11, 0)) (h2 : hfr w a0 15 = some a0_15) (h3 : hk w a0_15 = (16, n_a0_15)) (s1 : vp_in 0 n_a0_15) (k1 : mW G mX11_measures 3 0 0 12 [(0, .ref a0), (1, .int x1), (2, .int 0), (3, .int (hai w a0_15 0)), (4, .int 0)] [] w Φ) : mW G mX11_measures 3 0 0 0 [(0, .ref a0), (1, .int x1)] [] w Φ := by
  refine mW_iconst (v := 0) dX11_measures_0 (by decide) ?_
  refine mW_istore_n (lv2 := [(2, .int 0), (0, .ref a0), (1, .int x1)]) dX11_measures_1 rfl (by decide) rfl ?_
  refine mW_aload_n (j := 1) dX11_measures_2 rfl rfl ?_
  refine mW_getR dX11_measures_3 f_X11_39 h1 rfl h2 ?_
  refine mW_iconst (v := 0) dX11_measures_6 (by decide) ?_
  refine mW_ialdJ dX11_measures_7 h3 s1 (j := 0) (by decide) ?_
  refine mW_istore_n (lv2 := [(3, .int (hai w a0_15 0)), (2, .int 0), (0, .ref a0), (1, .int x1)]) dX11_measures_8 rfl (by decide) rfl ?_
  refine mW_iconst (v := 0) dX11_measures_9 (by decide) ?_
  refine mW_istore (lv2 := [(4, .int 0), (3, .int (hai w a0_15 0)), (2, .int 0), (0, .ref a0), (1, .int x1)]) dX11_measures_10 (by decide) rfl ?_
  refine mW_loc [3, 4, 2, 1, 0] (lv2 := [(0, .ref a0), (1, .int x1), (2, .int 0), (3, .int (hai w a0_15 0)), (4, .int 0)]) rfl ?_
  exact k1
set_option maxHeartbeats 4000000 in
set_option maxRecDepth 100000 in
theorem gX11_measures_12 {G : mG} {w : mH} {Φ : mF} {a0 : Nat} {x1 x2 x3 x4 : Int32} {a0_15 n_a0_15 : Nat} (h1 : hk w a0 = (11, 0)) (h2 : hfr w a0 15 = some a0_15) (h3 : hk w a0_15 = (16, n_a0_15)) (s1 : (¬ ((hfi w a0 22) < x4)) → vp_in x4 n_a0_15) (k1 : ((hfi w a0 22) < x4) → mW G mX11_measures 3 0 0 224 [(0, .ref a0), (1, .int x1), (2, .int x2), (3, .int x3), (4, .int x4)] [] w Φ) (k2 : (¬ ((hfi w a0 22) < x4)) → ((hai w a0_15 x4.toNatClampNeg) ≤ 0) → (0 ≤ (hai w a0_15 x4.toNatClampNeg)) → mW G mX11_measures 3 0 0 55 [(0, .ref a0), (1, .int x1), (2, .int x2), (3, .int x3), (4, .int x4), (5, .int (hai w a0_15 x4.toNatClampNeg)), (6, .int 0)] [] w Φ) (k3 : (¬ ((hfi w a0 22) < x4)) → ((hai w a0_15 x4.toNatClampNeg) ≤ 0) → (¬ (0 ≤ (hai w a0_15 x4.toNatClampNeg))) → (x3 ≤ 0) → mW G mX11_measures 3 0 0 55 [(0, .ref a0), (1, .int x1), (2, .int x2), (3, .int x3), (4, .int x4), (5, .int (hai w a0_15 x4.toNatClampNeg)), (6, .int 0)] [] w Φ) (k4 : (¬ ((hfi w a0 22) < x4)) → ((hai w a0_15 x4.toNatClampNeg) ≤ 0) → (¬ (0 ≤ (hai w a0_15 x4.toNatClampNeg))) → (¬ (x3 ≤ 0)) → mW G mX11_measures 3 0 0 55 [(0, .ref a0), (1, .int x1), (2, .int x2), (3, .int x3), (4, .int x4), (5, .int (hai w a0_15 x4.toNatClampNeg)), (6, .int 1)] [] w Φ) (k5 : (¬ ((hfi w a0 22) < x4)) → (¬ ((hai w a0_15 x4.toNatClampNeg) ≤ 0)) → (x3 < 0) → mW G mX11_measures 3 0 0 55 [(0, .ref a0), (1, .int x1), (2, .int x2), (3, .int x3), (4, .int x4), (5, .int (hai w a0_15 x4.toNatClampNeg)), (6, .int 1)] [] w Φ) (k6 : (¬ ((hfi w a0 22) < x4)) → (¬ ((hai w a0_15 x4.toNatClampNeg) ≤ 0)) → (¬ (x3 < 0)) → (0 ≤ (hai w a0_15 x4.toNatClampNeg)) → mW G mX11_measures 3 0 0 55 [(0, .ref a0), (1, .int x1), (2, .int x2), (3, .int x3), (4, .int x4), (5, .int (hai w a0_15 x4.toNatClampNeg)), (6, .int 0)] [] w Φ) (k7 : (¬ ((hfi w a0 22) < x4)) → (¬ ((hai w a0_15 x4.toNatClampNeg) ≤ 0)) → (¬ (x3 < 0)) → (¬ (0 ≤ (hai w a0_15 x4.toNatClampNeg))) → (x3 ≤ 0) → mW G mX11_measures 3 0 0 55 [(0, .ref a0), (1, .int x1), (2, .int x2), (3, .int x3), (4, .int x4), (5, .int (hai w a0_15 x4.toNatClampNeg)), (6, .int 0)] [] w Φ) (k8 : (¬ ((hfi w a0 22) < x4)) → (¬ ((hai w a0_15 x4.toNatClampNeg) ≤ 0)) → (¬ (x3 < 0)) → (¬ (0 ≤ (hai w a0_15 x4.toNatClampNeg))) → (¬ (x3 ≤ 0)) → mW G mX11_measures 3 0 0 55 [(0, .ref a0), (1, .int x1), (2, .int x2), (3, .int x3), (4, .int x4), (5, .int (hai w a0_15 x4.toNatClampNeg)), (6, .int 1)] [] w Φ) : mW G mX11_measures 3 0 0 12 [(0, .ref a0), (1, .int x1), (2, .int x2), (3, .int x3), (4, .int x4)] [] w Φ := by
  refine mW_iload (j := 4) dX11_measures_12 rfl ?_
  refine mW_aload_n (j := 0) dX11_measures_14 rfl rfl ?_
  refine mW_get dX11_measures_15 f_X11_218 h1 rfl ?_
  refine mW_icmp_gt (tgt := 224) dX11_measures_18 (by decide) (fun c1 => ?_) (fun c1 => ?_)
  · exact k1 c1
  · refine mW_aload_n (j := 0) dX11_measures_21 rfl rfl ?_
    refine mW_getR dX11_measures_22 f_X11_39 h1 rfl h2 ?_
    refine mW_iload (j := 4) dX11_measures_25 rfl ?_
    refine mW_ialdJ dX11_measures_27 h3 (s1 c1) rfl ?_
    refine mW_istore (lv2 := [(5, .int (hai w a0_15 x4.toNatClampNeg)), (0, .ref a0), (1, .int x1), (2, .int x2), (3, .int x3), (4, .int x4)]) dX11_measures_28 (by decide) rfl ?_
    refine mW_iload (j := 0) dX11_measures_30 rfl ?_
    refine mW_if_le (tgt := 39) dX11_measures_32 (by decide) (fun c2 => ?_) (fun c2 => ?_)
    · refine mW_iload (j := 0) dX11_measures_39 rfl ?_
      refine mW_if_ge (tgt := 52) dX11_measures_41 (by decide) (fun c3 => ?_) (fun c3 => ?_)
      · refine mW_iconst (v := 0) dX11_measures_52 (by decide) ?_
        refine mW_istore (lv2 := [(6, .int 0), (5, .int (hai w a0_15 x4.toNatClampNeg)), (0, .ref a0), (1, .int x1), (2, .int x2), (3, .int x3), (4, .int x4)]) dX11_measures_53 (by decide) rfl ?_
        refine mW_loc [2, 3, 4, 5, 6, 1, 0] (lv2 := [(0, .ref a0), (1, .int x1), (2, .int x2), (3, .int x3), (4, .int x4), (5, .int (hai w a0_15 x4.toNatClampNeg)), (6, .int 0)]) rfl ?_
        exact k2 c1 c2 c3
      · refine mW_iload_n (j := 4) dX11_measures_44 rfl rfl ?_
        refine mW_if_le (tgt := 52) dX11_measures_45 (by decide) (fun c4 => ?_) (fun c4 => ?_)
        · refine mW_iconst (v := 0) dX11_measures_52 (by decide) ?_
          refine mW_istore (lv2 := [(6, .int 0), (5, .int (hai w a0_15 x4.toNatClampNeg)), (0, .ref a0), (1, .int x1), (2, .int x2), (3, .int x3), (4, .int x4)]) dX11_measures_53 (by decide) rfl ?_
          refine mW_loc [2, 3, 4, 5, 6, 1, 0] (lv2 := [(0, .ref a0), (1, .int x1), (2, .int x2), (3, .int x3), (4, .int x4), (5, .int (hai w a0_15 x4.toNatClampNeg)), (6, .int 0)]) rfl ?_
          exact k3 c1 c2 c3 c4
        · refine mW_iconst (v := 1) dX11_measures_48 (by decide) ?_
          refine mW_goto (tgt := 53) dX11_measures_49 (by decide) ?_
          refine mW_istore (lv2 := [(6, .int 1), (5, .int (hai w a0_15 x4.toNatClampNeg)), (0, .ref a0), (1, .int x1), (2, .int x2), (3, .int x3), (4, .int x4)]) dX11_measures_53 (by decide) rfl ?_
          refine mW_loc [2, 3, 4, 5, 6, 1, 0] (lv2 := [(0, .ref a0), (1, .int x1), (2, .int x2), (3, .int x3), (4, .int x4), (5, .int (hai w a0_15 x4.toNatClampNeg)), (6, .int 1)]) rfl ?_
          exact k4 c1 c2 c3 c4
    · refine mW_iload_n (j := 4) dX11_measures_35 rfl rfl ?_
      refine mW_if_lt (tgt := 48) dX11_measures_36 (by decide) (fun c5 => ?_) (fun c5 => ?_)
      · refine mW_iconst (v := 1) dX11_measures_48 (by decide) ?_
        refine mW_goto (tgt := 53) dX11_measures_49 (by decide) ?_
        refine mW_istore (lv2 := [(6, .int 1), (5, .int (hai w a0_15 x4.toNatClampNeg)), (0, .ref a0), (1, .int x1), (2, .int x2), (3, .int x3), (4, .int x4)]) dX11_measures_53 (by decide) rfl ?_
        refine mW_loc [2, 3, 4, 5, 6, 1, 0] (lv2 := [(0, .ref a0), (1, .int x1), (2, .int x2), (3, .int x3), (4, .int x4), (5, .int (hai w a0_15 x4.toNatClampNeg)), (6, .int 1)]) rfl ?_
        exact k5 c1 c2 c5
      · refine mW_iload (j := 0) dX11_measures_39 rfl ?_
        refine mW_if_ge (tgt := 52) dX11_measures_41 (by decide) (fun c6 => ?_) (fun c6 => ?_)
        · refine mW_iconst (v := 0) dX11_measures_52 (by decide) ?_
          refine mW_istore (lv2 := [(6, .int 0), (5, .int (hai w a0_15 x4.toNatClampNeg)), (0, .ref a0), (1, .int x1), (2, .int x2), (3, .int x3), (4, .int x4)]) dX11_measures_53 (by decide) rfl ?_
          refine mW_loc [2, 3, 4, 5, 6, 1, 0] (lv2 := [(0, .ref a0), (1, .int x1), (2, .int x2), (3, .int x3), (4, .int x4), (5, .int (hai w a0_15 x4.toNatClampNeg)), (6, .int 0)]) rfl ?_
          exact k6 c1 c2 c5 c6
        · refine mW_iload_n (j := 4) dX11_measures_44 rfl rfl ?_
          refine mW_if_le (tgt := 52) dX11_measures_45 (by decide) (fun c7 => ?_) (fun c7 => ?_)
          · refine mW_iconst (v := 0) dX11_measures_52 (by decide) ?_
            refine mW_istore (lv2 := [(6, .int 0), (5, .int (hai w a0_15 x4.toNatClampNeg)), (0, .ref a0), (1, .int x1), (2, .int x2), (3, .int x3), (4, .int x4)]) dX11_measures_53 (by decide) rfl ?_
            refine mW_loc [2, 3, 4, 5, 6, 1, 0] (lv2 := [(0, .ref a0), (1, .int x1), (2, .int x2), (3, .int x3), (4, .int x4), (5, .int (hai w a0_15 x4.toNatClampNeg)), (6, .int 0)]) rfl ?_
            exact k7 c1 c2 c5 c6 c7
          · refine mW_iconst (v := 1) dX11_measures_48 (by decide) ?_
            refine mW_goto (tgt := 53) dX11_measures_49 (by decide) ?_
            refine mW_istore (lv2 := [(6, .int 1), (5, .int (hai w a0_15 x4.toNatClampNeg)), (0, .ref a0), (1, .int x1), (2, .int x2), (3, .int x3), (4, .int x4)]) dX11_measures_53 (by decide) rfl ?_
            refine mW_loc [2, 3, 4, 5, 6, 1, 0] (lv2 := [(0, .ref a0), (1, .int x1), (2, .int x2), (3, .int x3), (4, .int x4), (5, .int (hai w a0_15 x4.toNatClampNeg)), (6, .int 1)]) rfl ?_
            exact k8 c1 c2 c5 c6 c7
set_option maxHeartbeats 4000000 in
set_option maxRecDepth 100000 in
theorem gX11_measures_55 {G : mG} {w : mH} {Φ : mF} {a0 : Nat} {x1 x2 x3 x4 x5 x6 : Int32}  (k1 : (¬ (x1 = 0)) → (¬ (x1 = 1)) → (¬ (x1 = 2)) → mW G mX11_measures 3 0 0 106 [(0, .ref a0), (1, .int x1), (2, .int x2), (3, .int x3), (4, .int x4), (5, .int x5), (6, .int x6)] [] w Φ) (k2 : (¬ (x1 = 0)) → (¬ (x1 = 1)) → (x1 = 2) → (x6 = 0) → mW G mX11_measures 3 0 0 106 [(0, .ref a0), (1, .int x1), (2, .int x2), (3, .int x3), (4, .int x4), (5, .int x5), (6, .int x6)] [] w Φ) (k3 : (¬ (x1 = 0)) → (¬ (x1 = 1)) → (x1 = 2) → (¬ (x6 = 0)) → ((vX11_amount x5) ≤ x2) → mW G mX11_measures 3 0 0 106 [(0, .ref a0), (1, .int x1), (2, .int x2), (3, .int x3), (4, .int x4), (5, .int x5), (6, .int x6)] [] w Φ) (k4 : (¬ (x1 = 0)) → (¬ (x1 = 1)) → (x1 = 2) → (¬ (x6 = 0)) → (¬ ((vX11_amount x5) ≤ x2)) → mW G mX11_measures 3 0 0 106 [(0, .ref a0), (1, .int x1), (2, .int (vX11_amount x5)), (3, .int x3), (4, .int x4), (5, .int x5), (6, .int x6)] [] w Φ) (k5 : (¬ (x1 = 0)) → (x1 = 1) → (0 < x4) → ((vX11_amount x5) ≤ x2) → mW G mX11_measures 3 0 0 106 [(0, .ref a0), (1, .int x1), (2, .int x2), (3, .int x3), (4, .int x4), (5, .int x5), (6, .int x6)] [] w Φ) (k6 : (¬ (x1 = 0)) → (x1 = 1) → (0 < x4) → (¬ ((vX11_amount x5) ≤ x2)) → mW G mX11_measures 3 0 0 106 [(0, .ref a0), (1, .int x1), (2, .int (vX11_amount x5)), (3, .int x3), (4, .int x4), (5, .int x5), (6, .int x6)] [] w Φ) (k7 : (¬ (x1 = 0)) → (x1 = 1) → (¬ (0 < x4)) → (¬ (x1 = 2)) → mW G mX11_measures 3 0 0 106 [(0, .ref a0), (1, .int x1), (2, .int x2), (3, .int x3), (4, .int x4), (5, .int x5), (6, .int x6)] [] w Φ) (k8 : (¬ (x1 = 0)) → (x1 = 1) → (¬ (0 < x4)) → (x1 = 2) → (x6 = 0) → mW G mX11_measures 3 0 0 106 [(0, .ref a0), (1, .int x1), (2, .int x2), (3, .int x3), (4, .int x4), (5, .int x5), (6, .int x6)] [] w Φ) (k9 : (¬ (x1 = 0)) → (x1 = 1) → (¬ (0 < x4)) → (x1 = 2) → (¬ (x6 = 0)) → ((vX11_amount x5) ≤ x2) → mW G mX11_measures 3 0 0 106 [(0, .ref a0), (1, .int x1), (2, .int x2), (3, .int x3), (4, .int x4), (5, .int x5), (6, .int x6)] [] w Φ) (k10 : (¬ (x1 = 0)) → (x1 = 1) → (¬ (0 < x4)) → (x1 = 2) → (¬ (x6 = 0)) → (¬ ((vX11_amount x5) ≤ x2)) → mW G mX11_measures 3 0 0 106 [(0, .ref a0), (1, .int x1), (2, .int (vX11_amount x5)), (3, .int x3), (4, .int x4), (5, .int x5), (6, .int x6)] [] w Φ) (k11 : (x1 = 0) → (¬ (x1 = 1)) → (¬ (x1 = 2)) → mW G mX11_measures 3 0 0 106 [(0, .ref a0), (1, .int x1), (2, .int (x2 + (vX11_amount x5))), (3, .int x3), (4, .int x4), (5, .int x5), (6, .int x6)] [] w Φ) (k12 : (x1 = 0) → (¬ (x1 = 1)) → (x1 = 2) → (x6 = 0) → mW G mX11_measures 3 0 0 106 [(0, .ref a0), (1, .int x1), (2, .int (x2 + (vX11_amount x5))), (3, .int x3), (4, .int x4), (5, .int x5), (6, .int x6)] [] w Φ) (k13 : (x1 = 0) → (¬ (x1 = 1)) → (x1 = 2) → (¬ (x6 = 0)) → ((vX11_amount x5) ≤ (x2 + (vX11_amount x5))) → mW G mX11_measures 3 0 0 106 [(0, .ref a0), (1, .int x1), (2, .int (x2 + (vX11_amount x5))), (3, .int x3), (4, .int x4), (5, .int x5), (6, .int x6)] [] w Φ) (k14 : (x1 = 0) → (¬ (x1 = 1)) → (x1 = 2) → (¬ (x6 = 0)) → (¬ ((vX11_amount x5) ≤ (x2 + (vX11_amount x5)))) → mW G mX11_measures 3 0 0 106 [(0, .ref a0), (1, .int x1), (2, .int (vX11_amount x5)), (3, .int x3), (4, .int x4), (5, .int x5), (6, .int x6)] [] w Φ) (k15 : (x1 = 0) → (x1 = 1) → (0 < x4) → ((vX11_amount x5) ≤ (x2 + (vX11_amount x5))) → mW G mX11_measures 3 0 0 106 [(0, .ref a0), (1, .int x1), (2, .int (x2 + (vX11_amount x5))), (3, .int x3), (4, .int x4), (5, .int x5), (6, .int x6)] [] w Φ) (k16 : (x1 = 0) → (x1 = 1) → (0 < x4) → (¬ ((vX11_amount x5) ≤ (x2 + (vX11_amount x5)))) → mW G mX11_measures 3 0 0 106 [(0, .ref a0), (1, .int x1), (2, .int (vX11_amount x5)), (3, .int x3), (4, .int x4), (5, .int x5), (6, .int x6)] [] w Φ) (k17 : (x1 = 0) → (x1 = 1) → (¬ (0 < x4)) → (¬ (x1 = 2)) → mW G mX11_measures 3 0 0 106 [(0, .ref a0), (1, .int x1), (2, .int (x2 + (vX11_amount x5))), (3, .int x3), (4, .int x4), (5, .int x5), (6, .int x6)] [] w Φ) (k18 : (x1 = 0) → (x1 = 1) → (¬ (0 < x4)) → (x1 = 2) → (x6 = 0) → mW G mX11_measures 3 0 0 106 [(0, .ref a0), (1, .int x1), (2, .int (x2 + (vX11_amount x5))), (3, .int x3), (4, .int x4), (5, .int x5), (6, .int x6)] [] w Φ) (k19 : (x1 = 0) → (x1 = 1) → (¬ (0 < x4)) → (x1 = 2) → (¬ (x6 = 0)) → ((vX11_amount x5) ≤ (x2 + (vX11_amount x5))) → mW G mX11_measures 3 0 0 106 [(0, .ref a0), (1, .int x1), (2, .int (x2 + (vX11_amount x5))), (3, .int x3), (4, .int x4), (5, .int x5), (6, .int x6)] [] w Φ) (k20 : (x1 = 0) → (x1 = 1) → (¬ (0 < x4)) → (x1 = 2) → (¬ (x6 = 0)) → (¬ ((vX11_amount x5) ≤ (x2 + (vX11_amount x5)))) → mW G mX11_measures 3 0 0 106 [(0, .ref a0), (1, .int x1), (2, .int (vX11_amount x5)), (3, .int x3), (4, .int x4), (5, .int x5), (6, .int x6)] [] w Φ) : mW G mX11_measures 3 0 0 55 [(0, .ref a0), (1, .int x1), (2, .int x2), (3, .int x3), (4, .int x4), (5, .int x5), (6, .int x6)] [] w Φ := by
  refine mW_iload_n (j := 1) dX11_measures_55 rfl rfl ?_
  refine mW_if_ne (tgt := 67) dX11_measures_56 (by decide) (fun c1 => ?_) (fun c1 => ?_)
  · refine mW_iload_n (j := 1) dX11_measures_67 rfl rfl ?_
    refine mW_iconst (v := 1) dX11_measures_68 (by decide) ?_
    refine mW_icmp_ne (tgt := 77) dX11_measures_69 (by decide) (fun c2 => ?_) (fun c2 => ?_)
    · refine mW_iload_n (j := 1) dX11_measures_77 rfl rfl ?_
      refine mW_iconst (v := 2) dX11_measures_78 (by decide) ?_
      refine mW_icmp_ne (tgt := 106) dX11_measures_79 (by decide) (fun c3 => ?_) (fun c3 => ?_)
      · exact k1 c1 c2 c3
      · refine mW_iload (j := 6) dX11_measures_82 rfl ?_
        refine mW_if_eq (tgt := 106) dX11_measures_84 (by decide) (fun c4 => ?_) (fun c4 => ?_)
        · exact k2 c1 c2 c3 c4
        · refine mW_iload (j := 5) dX11_measures_87 rfl ?_
          refine mW_callSe (As := [.int x5]) (rest := []) (kc2 := 0) (ks2 := 0) dX11_measures_89 l_X11_179 rfl (qX11_amount (w := w) (x0 := x5)) (Nat.le_of_ble_eq_true rfl) (by decide) rfl rfl ?_
          refine mW_iload_n (j := 2) dX11_measures_92 rfl rfl ?_
          refine mW_icmp_le (tgt := 104) dX11_measures_93 (by decide) (fun c5 => ?_) (fun c5 => ?_)
          · refine mW_iload_n (j := 2) dX11_measures_104 rfl rfl ?_
            refine mW_istore_n (lv2 := [(2, .int x2), (0, .ref a0), (1, .int x1), (3, .int x3), (4, .int x4), (5, .int x5), (6, .int x6)]) dX11_measures_105 rfl (by decide) rfl ?_
            refine mW_loc [1, 2, 0, 3, 4, 5, 6] (lv2 := [(0, .ref a0), (1, .int x1), (2, .int x2), (3, .int x3), (4, .int x4), (5, .int x5), (6, .int x6)]) rfl ?_
            exact k3 c1 c2 c3 c4 c5
          · refine mW_iload (j := 5) dX11_measures_96 rfl ?_
            refine mW_callSe (As := [.int x5]) (rest := []) (kc2 := 0) (ks2 := 0) dX11_measures_98 l_X11_179 rfl (qX11_amount (w := w) (x0 := x5)) (Nat.le_of_ble_eq_true rfl) (by decide) rfl rfl ?_
            refine mW_goto (tgt := 105) dX11_measures_101 (by decide) ?_
            refine mW_istore_n (lv2 := [(2, .int (vX11_amount x5)), (0, .ref a0), (1, .int x1), (3, .int x3), (4, .int x4), (5, .int x5), (6, .int x6)]) dX11_measures_105 rfl (by decide) rfl ?_
            refine mW_loc [1, 2, 0, 3, 4, 5, 6] (lv2 := [(0, .ref a0), (1, .int x1), (2, .int (vX11_amount x5)), (3, .int x3), (4, .int x4), (5, .int x5), (6, .int x6)]) rfl ?_
            exact k4 c1 c2 c3 c4 c5
    · refine mW_iload (j := 4) dX11_measures_72 rfl ?_
      refine mW_if_gt (tgt := 87) dX11_measures_74 (by decide) (fun c6 => ?_) (fun c6 => ?_)
      · refine mW_iload (j := 5) dX11_measures_87 rfl ?_
        refine mW_callSe (As := [.int x5]) (rest := []) (kc2 := 0) (ks2 := 0) dX11_measures_89 l_X11_179 rfl (qX11_amount (w := w) (x0 := x5)) (Nat.le_of_ble_eq_true rfl) (by decide) rfl rfl ?_
        refine mW_iload_n (j := 2) dX11_measures_92 rfl rfl ?_
        refine mW_icmp_le (tgt := 104) dX11_measures_93 (by decide) (fun c7 => ?_) (fun c7 => ?_)
        · refine mW_iload_n (j := 2) dX11_measures_104 rfl rfl ?_
          refine mW_istore_n (lv2 := [(2, .int x2), (0, .ref a0), (1, .int x1), (3, .int x3), (4, .int x4), (5, .int x5), (6, .int x6)]) dX11_measures_105 rfl (by decide) rfl ?_
          refine mW_loc [1, 2, 0, 3, 4, 5, 6] (lv2 := [(0, .ref a0), (1, .int x1), (2, .int x2), (3, .int x3), (4, .int x4), (5, .int x5), (6, .int x6)]) rfl ?_
          exact k5 c1 c2 c6 c7
        · refine mW_iload (j := 5) dX11_measures_96 rfl ?_
          refine mW_callSe (As := [.int x5]) (rest := []) (kc2 := 0) (ks2 := 0) dX11_measures_98 l_X11_179 rfl (qX11_amount (w := w) (x0 := x5)) (Nat.le_of_ble_eq_true rfl) (by decide) rfl rfl ?_
          refine mW_goto (tgt := 105) dX11_measures_101 (by decide) ?_
          refine mW_istore_n (lv2 := [(2, .int (vX11_amount x5)), (0, .ref a0), (1, .int x1), (3, .int x3), (4, .int x4), (5, .int x5), (6, .int x6)]) dX11_measures_105 rfl (by decide) rfl ?_
          refine mW_loc [1, 2, 0, 3, 4, 5, 6] (lv2 := [(0, .ref a0), (1, .int x1), (2, .int (vX11_amount x5)), (3, .int x3), (4, .int x4), (5, .int x5), (6, .int x6)]) rfl ?_
          exact k6 c1 c2 c6 c7
      · refine mW_iload_n (j := 1) dX11_measures_77 rfl rfl ?_
        refine mW_iconst (v := 2) dX11_measures_78 (by decide) ?_
        refine mW_icmp_ne (tgt := 106) dX11_measures_79 (by decide) (fun c8 => ?_) (fun c8 => ?_)
        · exact k7 c1 c2 c6 c8
        · refine mW_iload (j := 6) dX11_measures_82 rfl ?_
          refine mW_if_eq (tgt := 106) dX11_measures_84 (by decide) (fun c9 => ?_) (fun c9 => ?_)
          · exact k8 c1 c2 c6 c8 c9
          · refine mW_iload (j := 5) dX11_measures_87 rfl ?_
            refine mW_callSe (As := [.int x5]) (rest := []) (kc2 := 0) (ks2 := 0) dX11_measures_89 l_X11_179 rfl (qX11_amount (w := w) (x0 := x5)) (Nat.le_of_ble_eq_true rfl) (by decide) rfl rfl ?_
            refine mW_iload_n (j := 2) dX11_measures_92 rfl rfl ?_
            refine mW_icmp_le (tgt := 104) dX11_measures_93 (by decide) (fun c10 => ?_) (fun c10 => ?_)
            · refine mW_iload_n (j := 2) dX11_measures_104 rfl rfl ?_
              refine mW_istore_n (lv2 := [(2, .int x2), (0, .ref a0), (1, .int x1), (3, .int x3), (4, .int x4), (5, .int x5), (6, .int x6)]) dX11_measures_105 rfl (by decide) rfl ?_
              refine mW_loc [1, 2, 0, 3, 4, 5, 6] (lv2 := [(0, .ref a0), (1, .int x1), (2, .int x2), (3, .int x3), (4, .int x4), (5, .int x5), (6, .int x6)]) rfl ?_
              exact k9 c1 c2 c6 c8 c9 c10
            · refine mW_iload (j := 5) dX11_measures_96 rfl ?_
              refine mW_callSe (As := [.int x5]) (rest := []) (kc2 := 0) (ks2 := 0) dX11_measures_98 l_X11_179 rfl (qX11_amount (w := w) (x0 := x5)) (Nat.le_of_ble_eq_true rfl) (by decide) rfl rfl ?_
              refine mW_goto (tgt := 105) dX11_measures_101 (by decide) ?_
              refine mW_istore_n (lv2 := [(2, .int (vX11_amount x5)), (0, .ref a0), (1, .int x1), (3, .int x3), (4, .int x4), (5, .int x5), (6, .int x6)]) dX11_measures_105 rfl (by decide) rfl ?_
              refine mW_loc [1, 2, 0, 3, 4, 5, 6] (lv2 := [(0, .ref a0), (1, .int x1), (2, .int (vX11_amount x5)), (3, .int x3), (4, .int x4), (5, .int x5), (6, .int x6)]) rfl ?_
              exact k10 c1 c2 c6 c8 c9 c10
  · refine mW_iload_n (j := 2) dX11_measures_59 rfl rfl ?_
    refine mW_iload (j := 5) dX11_measures_60 rfl ?_
    refine mW_callSe (As := [.int x5]) (rest := [.int x2]) (kc2 := 0) (ks2 := 0) dX11_measures_62 l_X11_179 rfl (qX11_amount (w := w) (x0 := x5)) (Nat.le_of_ble_eq_true rfl) (by decide) rfl rfl ?_
    refine mW_iadd dX11_measures_65 ?_
    refine mW_istore_n (lv2 := [(2, .int (x2 + (vX11_amount x5))), (0, .ref a0), (1, .int x1), (3, .int x3), (4, .int x4), (5, .int x5), (6, .int x6)]) dX11_measures_66 rfl (by decide) rfl ?_
    refine mW_iload_n (j := 2) dX11_measures_67 rfl rfl ?_
    refine mW_iconst (v := 1) dX11_measures_68 (by decide) ?_
    refine mW_icmp_ne (tgt := 77) dX11_measures_69 (by decide) (fun c11 => ?_) (fun c11 => ?_)
    · refine mW_iload_n (j := 2) dX11_measures_77 rfl rfl ?_
      refine mW_iconst (v := 2) dX11_measures_78 (by decide) ?_
      refine mW_icmp_ne (tgt := 106) dX11_measures_79 (by decide) (fun c12 => ?_) (fun c12 => ?_)
      · refine mW_loc [1, 2, 0, 3, 4, 5, 6] (lv2 := [(0, .ref a0), (1, .int x1), (2, .int (x2 + (vX11_amount x5))), (3, .int x3), (4, .int x4), (5, .int x5), (6, .int x6)]) rfl ?_
        exact k11 c1 c11 c12
      · refine mW_iload (j := 6) dX11_measures_82 rfl ?_
        refine mW_if_eq (tgt := 106) dX11_measures_84 (by decide) (fun c13 => ?_) (fun c13 => ?_)
        · refine mW_loc [1, 2, 0, 3, 4, 5, 6] (lv2 := [(0, .ref a0), (1, .int x1), (2, .int (x2 + (vX11_amount x5))), (3, .int x3), (4, .int x4), (5, .int x5), (6, .int x6)]) rfl ?_
          exact k12 c1 c11 c12 c13
        · refine mW_iload (j := 5) dX11_measures_87 rfl ?_
          refine mW_callSe (As := [.int x5]) (rest := []) (kc2 := 0) (ks2 := 0) dX11_measures_89 l_X11_179 rfl (qX11_amount (w := w) (x0 := x5)) (Nat.le_of_ble_eq_true rfl) (by decide) rfl rfl ?_
          refine mW_iload_n (j := 0) dX11_measures_92 rfl rfl ?_
          refine mW_icmp_le (tgt := 104) dX11_measures_93 (by decide) (fun c14 => ?_) (fun c14 => ?_)
          · refine mW_iload_n (j := 0) dX11_measures_104 rfl rfl ?_
            refine mW_istore_n (lv2 := [(2, .int (x2 + (vX11_amount x5))), (0, .ref a0), (1, .int x1), (3, .int x3), (4, .int x4), (5, .int x5), (6, .int x6)]) dX11_measures_105 rfl (by decide) rfl ?_
            refine mW_loc [1, 2, 0, 3, 4, 5, 6] (lv2 := [(0, .ref a0), (1, .int x1), (2, .int (x2 + (vX11_amount x5))), (3, .int x3), (4, .int x4), (5, .int x5), (6, .int x6)]) rfl ?_
            exact k13 c1 c11 c12 c13 c14
          · refine mW_iload (j := 5) dX11_measures_96 rfl ?_
            refine mW_callSe (As := [.int x5]) (rest := []) (kc2 := 0) (ks2 := 0) dX11_measures_98 l_X11_179 rfl (qX11_amount (w := w) (x0 := x5)) (Nat.le_of_ble_eq_true rfl) (by decide) rfl rfl ?_
            refine mW_goto (tgt := 105) dX11_measures_101 (by decide) ?_
            refine mW_istore_n (lv2 := [(2, .int (vX11_amount x5)), (0, .ref a0), (1, .int x1), (3, .int x3), (4, .int x4), (5, .int x5), (6, .int x6)]) dX11_measures_105 rfl (by decide) rfl ?_
            refine mW_loc [1, 2, 0, 3, 4, 5, 6] (lv2 := [(0, .ref a0), (1, .int x1), (2, .int (vX11_amount x5)), (3, .int x3), (4, .int x4), (5, .int x5), (6, .int x6)]) rfl ?_
            exact k14 c1 c11 c12 c13 c14
    · refine mW_iload (j := 4) dX11_measures_72 rfl ?_
      refine mW_if_gt (tgt := 87) dX11_measures_74 (by decide) (fun c15 => ?_) (fun c15 => ?_)
      · refine mW_iload (j := 5) dX11_measures_87 rfl ?_
        refine mW_callSe (As := [.int x5]) (rest := []) (kc2 := 0) (ks2 := 0) dX11_measures_89 l_X11_179 rfl (qX11_amount (w := w) (x0 := x5)) (Nat.le_of_ble_eq_true rfl) (by decide) rfl rfl ?_
        refine mW_iload_n (j := 0) dX11_measures_92 rfl rfl ?_
        refine mW_icmp_le (tgt := 104) dX11_measures_93 (by decide) (fun c16 => ?_) (fun c16 => ?_)
        · refine mW_iload_n (j := 0) dX11_measures_104 rfl rfl ?_
          refine mW_istore_n (lv2 := [(2, .int (x2 + (vX11_amount x5))), (0, .ref a0), (1, .int x1), (3, .int x3), (4, .int x4), (5, .int x5), (6, .int x6)]) dX11_measures_105 rfl (by decide) rfl ?_
          refine mW_loc [1, 2, 0, 3, 4, 5, 6] (lv2 := [(0, .ref a0), (1, .int x1), (2, .int (x2 + (vX11_amount x5))), (3, .int x3), (4, .int x4), (5, .int x5), (6, .int x6)]) rfl ?_
          exact k15 c1 c11 c15 c16
        · refine mW_iload (j := 5) dX11_measures_96 rfl ?_
          refine mW_callSe (As := [.int x5]) (rest := []) (kc2 := 0) (ks2 := 0) dX11_measures_98 l_X11_179 rfl (qX11_amount (w := w) (x0 := x5)) (Nat.le_of_ble_eq_true rfl) (by decide) rfl rfl ?_
          refine mW_goto (tgt := 105) dX11_measures_101 (by decide) ?_
          refine mW_istore_n (lv2 := [(2, .int (vX11_amount x5)), (0, .ref a0), (1, .int x1), (3, .int x3), (4, .int x4), (5, .int x5), (6, .int x6)]) dX11_measures_105 rfl (by decide) rfl ?_
          refine mW_loc [1, 2, 0, 3, 4, 5, 6] (lv2 := [(0, .ref a0), (1, .int x1), (2, .int (vX11_amount x5)), (3, .int x3), (4, .int x4), (5, .int x5), (6, .int x6)]) rfl ?_
          exact k16 c1 c11 c15 c16
      · refine mW_iload_n (j := 2) dX11_measures_77 rfl rfl ?_
        refine mW_iconst (v := 2) dX11_measures_78 (by decide) ?_
        refine mW_icmp_ne (tgt := 106) dX11_measures_79 (by decide) (fun c17 => ?_) (fun c17 => ?_)
        · refine mW_loc [1, 2, 0, 3, 4, 5, 6] (lv2 := [(0, .ref a0), (1, .int x1), (2, .int (x2 + (vX11_amount x5))), (3, .int x3), (4, .int x4), (5, .int x5), (6, .int x6)]) rfl ?_
          exact k17 c1 c11 c15 c17
        · refine mW_iload (j := 6) dX11_measures_82 rfl ?_
          refine mW_if_eq (tgt := 106) dX11_measures_84 (by decide) (fun c18 => ?_) (fun c18 => ?_)
          · refine mW_loc [1, 2, 0, 3, 4, 5, 6] (lv2 := [(0, .ref a0), (1, .int x1), (2, .int (x2 + (vX11_amount x5))), (3, .int x3), (4, .int x4), (5, .int x5), (6, .int x6)]) rfl ?_
            exact k18 c1 c11 c15 c17 c18
          · refine mW_iload (j := 5) dX11_measures_87 rfl ?_
            refine mW_callSe (As := [.int x5]) (rest := []) (kc2 := 0) (ks2 := 0) dX11_measures_89 l_X11_179 rfl (qX11_amount (w := w) (x0 := x5)) (Nat.le_of_ble_eq_true rfl) (by decide) rfl rfl ?_
            refine mW_iload_n (j := 0) dX11_measures_92 rfl rfl ?_
            refine mW_icmp_le (tgt := 104) dX11_measures_93 (by decide) (fun c19 => ?_) (fun c19 => ?_)
            · refine mW_iload_n (j := 0) dX11_measures_104 rfl rfl ?_
              refine mW_istore_n (lv2 := [(2, .int (x2 + (vX11_amount x5))), (0, .ref a0), (1, .int x1), (3, .int x3), (4, .int x4), (5, .int x5), (6, .int x6)]) dX11_measures_105 rfl (by decide) rfl ?_
              refine mW_loc [1, 2, 0, 3, 4, 5, 6] (lv2 := [(0, .ref a0), (1, .int x1), (2, .int (x2 + (vX11_amount x5))), (3, .int x3), (4, .int x4), (5, .int x5), (6, .int x6)]) rfl ?_
              exact k19 c1 c11 c15 c17 c18 c19
            · refine mW_iload (j := 5) dX11_measures_96 rfl ?_
              refine mW_callSe (As := [.int x5]) (rest := []) (kc2 := 0) (ks2 := 0) dX11_measures_98 l_X11_179 rfl (qX11_amount (w := w) (x0 := x5)) (Nat.le_of_ble_eq_true rfl) (by decide) rfl rfl ?_
              refine mW_goto (tgt := 105) dX11_measures_101 (by decide) ?_
              refine mW_istore_n (lv2 := [(2, .int (vX11_amount x5)), (0, .ref a0), (1, .int x1), (3, .int x3), (4, .int x4), (5, .int x5), (6, .int x6)]) dX11_measures_105 rfl (by decide) rfl ?_
              refine mW_loc [1, 2, 0, 3, 4, 5, 6] (lv2 := [(0, .ref a0), (1, .int x1), (2, .int (vX11_amount x5)), (3, .int x3), (4, .int x4), (5, .int x5), (6, .int x6)]) rfl ?_
              exact k20 c1 c11 c15 c17 c18 c19
set_option maxHeartbeats 4000000 in
set_option maxRecDepth 100000 in
theorem gX11_measures_106 {G : mG} {w : mH} {Φ : mF} {a0 : Nat} {x1 x2 x3 x4 x5 x6 : Int32} (h1 : hk w a0 = (11, 0)) (k1 : (¬ (x4 = (hfi w a0 22))) → mW G mX11_measures 3 0 0 118 [(0, .ref a0), (1, .int x1), (2, .int x2), (3, .int x3), (4, .int x4), (5, .int x5), (6, .int x6)] [] w Φ) (k2 : (x4 = (hfi w a0 22)) → mW G mX11_measures 3 0 0 218 [(0, .ref a0), (1, .int x1), (2, .int x2), (3, .int x3), (4, .int x4), (5, .int x5), (6, .int x6)] [] w Φ) : mW G mX11_measures 3 0 0 106 [(0, .ref a0), (1, .int x1), (2, .int x2), (3, .int x3), (4, .int x4), (5, .int x5), (6, .int x6)] [] w Φ := by
  refine mW_iload (j := 4) dX11_measures_106 rfl ?_
  refine mW_aload_n (j := 0) dX11_measures_108 rfl rfl ?_
  refine mW_get dX11_measures_109 f_X11_218 h1 rfl ?_
  refine mW_icmp_ne (tgt := 118) dX11_measures_112 (by decide) (fun c1 => ?_) (fun c1 => ?_)
  · exact k1 c1
  · refine mW_goto (tgt := 218) dX11_measures_115 (by decide) ?_
    exact k2 c1
set_option maxHeartbeats 4000000 in
set_option maxRecDepth 100000 in
theorem gX11_measures_118 {G : mG} {w : mH} {Φ : mF} {a0 : Nat} {x1 x2 x3 x4 x5 x6 : Int32} {a0_15 n_a0_15 : Nat} (h1 : hk w a0 = (11, 0)) (h2 : hfr w a0 15 = some a0_15) (h3 : hk w a0_15 = (16, n_a0_15)) (s1 : (x1 = 4) → (x5 ≤ 0) → (¬ (0 ≤ x5)) → vp_in (x4 + 1) n_a0_15) (s2 : (x1 = 4) → (¬ (x5 ≤ 0)) → vp_in (x4 + 1) n_a0_15) (k1 : (¬ (x1 = 4)) → mW G mX11_measures 3 0 0 165 [(0, .ref a0), (1, .int x1), (2, .int x2), (3, .int x3), (4, .int x4), (5, .int x5), (6, .int x6)] [] w Φ) (k2 : (x1 = 4) → (x5 ≤ 0) → (0 ≤ x5) → mW G mX11_measures 3 0 0 165 [(0, .ref a0), (1, .int x1), (2, .int (x2 + 0)), (3, .int x3), (4, .int x4), (5, .int x5), (6, .int x6)] [] w Φ) (k3 : (x1 = 4) → (x5 ≤ 0) → (¬ (0 ≤ x5)) → ((hai w a0_15 ((x4 + 1).toNatClampNeg)) ≤ 0) → mW G mX11_measures 3 0 0 165 [(0, .ref a0), (1, .int x1), (2, .int (x2 + 0)), (3, .int x3), (4, .int x4), (5, .int x5), (6, .int x6)] [] w Φ) (k4 : (x1 = 4) → (x5 ≤ 0) → (¬ (0 ≤ x5)) → (¬ ((hai w a0_15 ((x4 + 1).toNatClampNeg)) ≤ 0)) → mW G mX11_measures 3 0 0 165 [(0, .ref a0), (1, .int x1), (2, .int (x2 + 1)), (3, .int x3), (4, .int x4), (5, .int x5), (6, .int x6)] [] w Φ) (k5 : (x1 = 4) → (¬ (x5 ≤ 0)) → ((hai w a0_15 ((x4 + 1).toNatClampNeg)) < 0) → mW G mX11_measures 3 0 0 165 [(0, .ref a0), (1, .int x1), (2, .int (x2 + 1)), (3, .int x3), (4, .int x4), (5, .int x5), (6, .int x6)] [] w Φ) (k6 : (x1 = 4) → (¬ (x5 ≤ 0)) → (¬ ((hai w a0_15 ((x4 + 1).toNatClampNeg)) < 0)) → (0 ≤ x5) → mW G mX11_measures 3 0 0 165 [(0, .ref a0), (1, .int x1), (2, .int (x2 + 0)), (3, .int x3), (4, .int x4), (5, .int x5), (6, .int x6)] [] w Φ) (k7 : (x1 = 4) → (¬ (x5 ≤ 0)) → (¬ ((hai w a0_15 ((x4 + 1).toNatClampNeg)) < 0)) → (¬ (0 ≤ x5)) → ((hai w a0_15 ((x4 + 1).toNatClampNeg)) ≤ 0) → mW G mX11_measures 3 0 0 165 [(0, .ref a0), (1, .int x1), (2, .int (x2 + 0)), (3, .int x3), (4, .int x4), (5, .int x5), (6, .int x6)] [] w Φ) (k8 : (x1 = 4) → (¬ (x5 ≤ 0)) → (¬ ((hai w a0_15 ((x4 + 1).toNatClampNeg)) < 0)) → (¬ (0 ≤ x5)) → (¬ ((hai w a0_15 ((x4 + 1).toNatClampNeg)) ≤ 0)) → mW G mX11_measures 3 0 0 165 [(0, .ref a0), (1, .int x1), (2, .int (x2 + 1)), (3, .int x3), (4, .int x4), (5, .int x5), (6, .int x6)] [] w Φ) : mW G mX11_measures 3 0 0 118 [(0, .ref a0), (1, .int x1), (2, .int x2), (3, .int x3), (4, .int x4), (5, .int x5), (6, .int x6)] [] w Φ := by
  refine mW_iload_n (j := 1) dX11_measures_118 rfl rfl ?_
  refine mW_iconst (v := 4) dX11_measures_119 (by decide) ?_
  refine mW_icmp_ne (tgt := 165) dX11_measures_120 (by decide) (fun c1 => ?_) (fun c1 => ?_)
  · exact k1 c1
  · refine mW_iload_n (j := 2) dX11_measures_123 rfl rfl ?_
    refine mW_iload (j := 5) dX11_measures_124 rfl ?_
    refine mW_if_le (tgt := 141) dX11_measures_126 (by decide) (fun c2 => ?_) (fun c2 => ?_)
    · refine mW_iload (j := 5) dX11_measures_141 rfl ?_
      refine mW_if_ge (tgt := 162) dX11_measures_143 (by decide) (fun c3 => ?_) (fun c3 => ?_)
      · refine mW_iconst (v := 0) dX11_measures_162 (by decide) ?_
        refine mW_iadd dX11_measures_163 ?_
        refine mW_istore_n (lv2 := [(2, .int (x2 + 0)), (0, .ref a0), (1, .int x1), (3, .int x3), (4, .int x4), (5, .int x5), (6, .int x6)]) dX11_measures_164 rfl (by decide) rfl ?_
        refine mW_loc [1, 2, 0, 3, 4, 5, 6] (lv2 := [(0, .ref a0), (1, .int x1), (2, .int (x2 + 0)), (3, .int x3), (4, .int x4), (5, .int x5), (6, .int x6)]) rfl ?_
        exact k2 c1 c2 c3
      · refine mW_aload_n (j := 0) dX11_measures_146 rfl rfl ?_
        refine mW_getR dX11_measures_147 f_X11_39 h1 rfl h2 ?_
        refine mW_iload (j := 4) dX11_measures_150 rfl ?_
        refine mW_iconst (v := 1) dX11_measures_152 (by decide) ?_
        refine mW_iadd dX11_measures_153 ?_
        refine mW_ialdJ dX11_measures_154 h3 (s1 c1 c2 c3) rfl ?_
        refine mW_if_le (tgt := 162) dX11_measures_155 (by decide) (fun c4 => ?_) (fun c4 => ?_)
        · refine mW_iconst (v := 0) dX11_measures_162 (by decide) ?_
          refine mW_iadd dX11_measures_163 ?_
          refine mW_istore_n (lv2 := [(2, .int (x2 + 0)), (0, .ref a0), (1, .int x1), (3, .int x3), (4, .int x4), (5, .int x5), (6, .int x6)]) dX11_measures_164 rfl (by decide) rfl ?_
          refine mW_loc [1, 2, 0, 3, 4, 5, 6] (lv2 := [(0, .ref a0), (1, .int x1), (2, .int (x2 + 0)), (3, .int x3), (4, .int x4), (5, .int x5), (6, .int x6)]) rfl ?_
          exact k3 c1 c2 c3 c4
        · refine mW_iconst (v := 1) dX11_measures_158 (by decide) ?_
          refine mW_goto (tgt := 163) dX11_measures_159 (by decide) ?_
          refine mW_iadd dX11_measures_163 ?_
          refine mW_istore_n (lv2 := [(2, .int (x2 + 1)), (0, .ref a0), (1, .int x1), (3, .int x3), (4, .int x4), (5, .int x5), (6, .int x6)]) dX11_measures_164 rfl (by decide) rfl ?_
          refine mW_loc [1, 2, 0, 3, 4, 5, 6] (lv2 := [(0, .ref a0), (1, .int x1), (2, .int (x2 + 1)), (3, .int x3), (4, .int x4), (5, .int x5), (6, .int x6)]) rfl ?_
          exact k4 c1 c2 c3 c4
    · refine mW_aload_n (j := 0) dX11_measures_129 rfl rfl ?_
      refine mW_getR dX11_measures_130 f_X11_39 h1 rfl h2 ?_
      refine mW_iload (j := 4) dX11_measures_133 rfl ?_
      refine mW_iconst (v := 1) dX11_measures_135 (by decide) ?_
      refine mW_iadd dX11_measures_136 ?_
      refine mW_ialdJ dX11_measures_137 h3 (s2 c1 c2) rfl ?_
      refine mW_if_lt (tgt := 158) dX11_measures_138 (by decide) (fun c5 => ?_) (fun c5 => ?_)
      · refine mW_iconst (v := 1) dX11_measures_158 (by decide) ?_
        refine mW_goto (tgt := 163) dX11_measures_159 (by decide) ?_
        refine mW_iadd dX11_measures_163 ?_
        refine mW_istore_n (lv2 := [(2, .int (x2 + 1)), (0, .ref a0), (1, .int x1), (3, .int x3), (4, .int x4), (5, .int x5), (6, .int x6)]) dX11_measures_164 rfl (by decide) rfl ?_
        refine mW_loc [1, 2, 0, 3, 4, 5, 6] (lv2 := [(0, .ref a0), (1, .int x1), (2, .int (x2 + 1)), (3, .int x3), (4, .int x4), (5, .int x5), (6, .int x6)]) rfl ?_
        exact k5 c1 c2 c5
      · refine mW_iload (j := 5) dX11_measures_141 rfl ?_
        refine mW_if_ge (tgt := 162) dX11_measures_143 (by decide) (fun c6 => ?_) (fun c6 => ?_)
        · refine mW_iconst (v := 0) dX11_measures_162 (by decide) ?_
          refine mW_iadd dX11_measures_163 ?_
          refine mW_istore_n (lv2 := [(2, .int (x2 + 0)), (0, .ref a0), (1, .int x1), (3, .int x3), (4, .int x4), (5, .int x5), (6, .int x6)]) dX11_measures_164 rfl (by decide) rfl ?_
          refine mW_loc [1, 2, 0, 3, 4, 5, 6] (lv2 := [(0, .ref a0), (1, .int x1), (2, .int (x2 + 0)), (3, .int x3), (4, .int x4), (5, .int x5), (6, .int x6)]) rfl ?_
          exact k6 c1 c2 c5 c6
        · refine mW_aload_n (j := 0) dX11_measures_146 rfl rfl ?_
          refine mW_getR dX11_measures_147 f_X11_39 h1 rfl h2 ?_
          refine mW_iload (j := 4) dX11_measures_150 rfl ?_
          refine mW_iconst (v := 1) dX11_measures_152 (by decide) ?_
          refine mW_iadd dX11_measures_153 ?_
          refine mW_ialdJ dX11_measures_154 h3 (s2 c1 c2) rfl ?_
          refine mW_if_le (tgt := 162) dX11_measures_155 (by decide) (fun c7 => ?_) (fun c7 => ?_)
          · refine mW_iconst (v := 0) dX11_measures_162 (by decide) ?_
            refine mW_iadd dX11_measures_163 ?_
            refine mW_istore_n (lv2 := [(2, .int (x2 + 0)), (0, .ref a0), (1, .int x1), (3, .int x3), (4, .int x4), (5, .int x5), (6, .int x6)]) dX11_measures_164 rfl (by decide) rfl ?_
            refine mW_loc [1, 2, 0, 3, 4, 5, 6] (lv2 := [(0, .ref a0), (1, .int x1), (2, .int (x2 + 0)), (3, .int x3), (4, .int x4), (5, .int x5), (6, .int x6)]) rfl ?_
            exact k7 c1 c2 c5 c6 c7
          · refine mW_iconst (v := 1) dX11_measures_158 (by decide) ?_
            refine mW_goto (tgt := 163) dX11_measures_159 (by decide) ?_
            refine mW_iadd dX11_measures_163 ?_
            refine mW_istore_n (lv2 := [(2, .int (x2 + 1)), (0, .ref a0), (1, .int x1), (3, .int x3), (4, .int x4), (5, .int x5), (6, .int x6)]) dX11_measures_164 rfl (by decide) rfl ?_
            refine mW_loc [1, 2, 0, 3, 4, 5, 6] (lv2 := [(0, .ref a0), (1, .int x1), (2, .int (x2 + 1)), (3, .int x3), (4, .int x4), (5, .int x5), (6, .int x6)]) rfl ?_
            exact k8 c1 c2 c5 c6 c7
set_option maxHeartbeats 4000000 in
set_option maxRecDepth 100000 in
theorem gX11_measures_165 {G : mG} {w : mH} {Φ : mF} {a0 : Nat} {x1 x2 x3 x4 x5 x6 : Int32} {a0_21 n_a0_21 : Nat} (h1 : hk w a0 = (11, 0)) (h2 : hfr w a0 21 = some a0_21) (h3 : hk w a0_21 = (16, n_a0_21)) (s1 : (x1 = 5) → vp_in x4 n_a0_21) (k1 : (¬ (x1 = 5)) → mW G mX11_measures 3 0 0 180 [(0, .ref a0), (1, .int x1), (2, .int x2), (3, .int x3), (4, .int x4), (5, .int x5), (6, .int x6)] [] w Φ) (k2 : (x1 = 5) → mW G mX11_measures 3 0 0 180 [(0, .ref a0), (1, .int x1), (2, .int (x2 + (hai w a0_21 x4.toNatClampNeg))), (3, .int x3), (4, .int x4), (5, .int x5), (6, .int x6)] [] w Φ) : mW G mX11_measures 3 0 0 165 [(0, .ref a0), (1, .int x1), (2, .int x2), (3, .int x3), (4, .int x4), (5, .int x5), (6, .int x6)] [] w Φ := by
  refine mW_iload_n (j := 1) dX11_measures_165 rfl rfl ?_
  refine mW_iconst (v := 5) dX11_measures_166 (by decide) ?_
  refine mW_icmp_ne (tgt := 180) dX11_measures_167 (by decide) (fun c1 => ?_) (fun c1 => ?_)
  · exact k1 c1
  · refine mW_iload_n (j := 2) dX11_measures_170 rfl rfl ?_
    refine mW_aload_n (j := 0) dX11_measures_171 rfl rfl ?_
    refine mW_getR dX11_measures_172 f_X11_57 h1 rfl h2 ?_
    refine mW_iload (j := 4) dX11_measures_175 rfl ?_
    refine mW_ialdJ dX11_measures_177 h3 (s1 c1) rfl ?_
    refine mW_iadd dX11_measures_178 ?_
    refine mW_istore_n (lv2 := [(2, .int (x2 + (hai w a0_21 x4.toNatClampNeg))), (0, .ref a0), (1, .int x1), (3, .int x3), (4, .int x4), (5, .int x5), (6, .int x6)]) dX11_measures_179 rfl (by decide) rfl ?_
    refine mW_loc [1, 2, 0, 3, 4, 5, 6] (lv2 := [(0, .ref a0), (1, .int x1), (2, .int (x2 + (hai w a0_21 x4.toNatClampNeg))), (3, .int x3), (4, .int x4), (5, .int x5), (6, .int x6)]) rfl ?_
    exact k2 c1
set_option maxHeartbeats 4000000 in
set_option maxRecDepth 100000 in
theorem gX11_measures_180 {G : mG} {w : mH} {Φ : mF} {a0 : Nat} {x1 x2 x3 x4 x5 x6 : Int32} {a0_19 n_a0_19 : Nat} (h1 : hk w a0 = (11, 0)) (h2 : hfr w a0 19 = some a0_19) (h3 : hk w a0_19 = (16, n_a0_19)) (s1 : (x1 = 6) → vp_in x4 n_a0_19) (s2 : (x1 = 6) → (¬ (x4 = 0)) → vp_in (x4 - 1) n_a0_19) (k1 : (¬ (x1 = 6)) → mW G mX11_measures 3 0 0 218 [(0, .ref a0), (1, .int x1), (2, .int x2), (3, .int x3), (4, .int x4), (5, .int x5), (6, .int x6)] [] w Φ) (k2 : (x1 = 6) → (¬ (x4 = 0)) → mW G mX11_measures 3 0 0 218 [(0, .ref a0), (1, .int x1), (2, .int (x2 + (vX11_amount ((hai w a0_19 x4.toNatClampNeg) - (hai w a0_19 ((x4 - 1).toNatClampNeg)))))), (3, .int x3), (4, .int x4), (5, .int x5), (6, .int x6)] [] w Φ) (k3 : (x1 = 6) → (x4 = 0) → mW G mX11_measures 3 0 0 218 [(0, .ref a0), (1, .int x1), (2, .int (x2 + (vX11_amount ((hai w a0_19 x4.toNatClampNeg) - 0)))), (3, .int x3), (4, .int x4), (5, .int x5), (6, .int x6)] [] w Φ) : mW G mX11_measures 3 0 0 180 [(0, .ref a0), (1, .int x1), (2, .int x2), (3, .int x3), (4, .int x4), (5, .int x5), (6, .int x6)] [] w Φ := by
  refine mW_iload_n (j := 1) dX11_measures_180 rfl rfl ?_
  refine mW_bipush (v := 6) dX11_measures_181 (by decide) ?_
  refine mW_icmp_ne (tgt := 218) dX11_measures_183 (by decide) (fun c1 => ?_) (fun c1 => ?_)
  · exact k1 c1
  · refine mW_iload_n (j := 2) dX11_measures_186 rfl rfl ?_
    refine mW_aload_n (j := 0) dX11_measures_187 rfl rfl ?_
    refine mW_getR dX11_measures_188 f_X11_51 h1 rfl h2 ?_
    refine mW_iload (j := 4) dX11_measures_191 rfl ?_
    refine mW_ialdJ dX11_measures_193 h3 (s1 c1) rfl ?_
    refine mW_iload (j := 4) dX11_measures_194 rfl ?_
    refine mW_if_ne (tgt := 203) dX11_measures_196 (by decide) (fun c2 => ?_) (fun c2 => ?_)
    · refine mW_aload_n (j := 0) dX11_measures_203 rfl rfl ?_
      refine mW_getR dX11_measures_204 f_X11_51 h1 rfl h2 ?_
      refine mW_iload (j := 4) dX11_measures_207 rfl ?_
      refine mW_iconst (v := 1) dX11_measures_209 (by decide) ?_
      refine mW_isub dX11_measures_210 ?_
      refine mW_ialdJ dX11_measures_211 h3 (s2 c1 c2) rfl ?_
      refine mW_isub dX11_measures_212 ?_
      refine mW_callSe (As := [.int ((hai w a0_19 x4.toNatClampNeg) - (hai w a0_19 ((x4 - 1).toNatClampNeg)))]) (rest := [.int x2]) (kc2 := 0) (ks2 := 0) dX11_measures_213 l_X11_179 rfl (qX11_amount (w := w) (x0 := (hai w a0_19 x4.toNatClampNeg) - (hai w a0_19 ((x4 - 1).toNatClampNeg)))) (Nat.le_of_ble_eq_true rfl) (by decide) rfl rfl ?_
      refine mW_iadd dX11_measures_216 ?_
      refine mW_istore_n (lv2 := [(2, .int (x2 + (vX11_amount ((hai w a0_19 x4.toNatClampNeg) - (hai w a0_19 ((x4 - 1).toNatClampNeg)))))), (0, .ref a0), (1, .int x1), (3, .int x3), (4, .int x4), (5, .int x5), (6, .int x6)]) dX11_measures_217 rfl (by decide) rfl ?_
      refine mW_loc [1, 2, 0, 3, 4, 5, 6] (lv2 := [(0, .ref a0), (1, .int x1), (2, .int (x2 + (vX11_amount ((hai w a0_19 x4.toNatClampNeg) - (hai w a0_19 ((x4 - 1).toNatClampNeg)))))), (3, .int x3), (4, .int x4), (5, .int x5), (6, .int x6)]) rfl ?_
      exact k2 c1 c2
    · refine mW_iconst (v := 0) dX11_measures_199 (by decide) ?_
      refine mW_goto (tgt := 212) dX11_measures_200 (by decide) ?_
      refine mW_isub dX11_measures_212 ?_
      refine mW_callSe (As := [.int ((hai w a0_19 x4.toNatClampNeg) - 0)]) (rest := [.int x2]) (kc2 := 0) (ks2 := 0) dX11_measures_213 l_X11_179 rfl (qX11_amount (w := w) (x0 := (hai w a0_19 x4.toNatClampNeg) - 0)) (Nat.le_of_ble_eq_true rfl) (by decide) rfl rfl ?_
      refine mW_iadd dX11_measures_216 ?_
      refine mW_istore_n (lv2 := [(2, .int (x2 + (vX11_amount ((hai w a0_19 x4.toNatClampNeg) - 0)))), (0, .ref a0), (1, .int x1), (3, .int x3), (4, .int x4), (5, .int x5), (6, .int x6)]) dX11_measures_217 rfl (by decide) rfl ?_
      refine mW_loc [1, 2, 0, 3, 4, 5, 6] (lv2 := [(0, .ref a0), (1, .int x1), (2, .int (x2 + (vX11_amount ((hai w a0_19 x4.toNatClampNeg) - 0)))), (3, .int x3), (4, .int x4), (5, .int x5), (6, .int x6)]) rfl ?_
      exact k3 c1 c2
set_option maxHeartbeats 4000000 in
set_option maxRecDepth 100000 in
theorem gX11_measures_218 {G : mG} {w : mH} {Φ : mF} {a0 : Nat} {x1 x2 x3 x4 x5 x6 : Int32}  (k1 : mW G mX11_measures 3 0 0 12 [(0, .ref a0), (1, .int x1), (2, .int x2), (3, .int x3), (4, .int (x4 + 1))] [] w Φ) : mW G mX11_measures 3 0 0 218 [(0, .ref a0), (1, .int x1), (2, .int x2), (3, .int x3), (4, .int x4), (5, .int x5), (6, .int x6)] [] w Φ := by
  refine mW_iinc (j := 4) (v := x4 + 1) (lv2 := [(4, .int (x4 + 1)), (0, .ref a0), (1, .int x1), (2, .int x2), (3, .int x3), (5, .int x5), (6, .int x6)]) dX11_measures_218 rfl rfl (by decide) rfl ?_
  refine mW_goto (tgt := 12) dX11_measures_221 (by decide) ?_
  refine mW_loc [1, 2, 3, 4, 0] (lv2 := [(0, .ref a0), (1, .int x1), (2, .int x2), (3, .int x3), (4, .int (x4 + 1))]) rfl ?_
  exact k1
/-! the reference: measures, costs -/
theorem am_eq (x : Int32) : vX11_amount x = aAbs x := by unfold vX11_amount aAbs; rw [Int32.zero_sub]
theorem am_mx (n a : Int32) : (if a ≤ n then n else a) = iMax n a := by
  unfold iMax
  by_cases h : a ≤ n
  · rw [if_pos h, if_neg (Int32.not_lt.mpr h)]
  · rw [if_neg h, if_pos (Int32.not_le.mp h)]
theorem ao_sy (a b : Int32) : vX6_areOpposite a b = vX6_areOpposite b a := by
  unfold vX6_areOpposite
  have h1 : a ≤ 0 ↔ a.toInt ≤ 0 := Int32.le_iff_toInt_le
  have h2 : 0 ≤ a ↔ 0 ≤ a.toInt := Int32.le_iff_toInt_le
  have h3 : b ≤ 0 ↔ b.toInt ≤ 0 := Int32.le_iff_toInt_le
  have h4 : 0 ≤ b ↔ 0 ≤ b.toInt := Int32.le_iff_toInt_le
  have h5 : a < 0 ↔ a.toInt < 0 := Int32.lt_iff_toInt_lt
  have h6 : b < 0 ↔ b.toInt < 0 := Int32.lt_iff_toInt_lt
  simp only [h1, h2, h3, h4, h5, h6]
  repeat' split
  all_goals first | rfl | omega
theorem fTr_eq (E : Nat → Int32) (b : Int32) : ∀ k, fTr E b k = fT E b k := by
  intro k
  induction k with
  | zero => rfl
  | succ k ih =>
    rw [fTr, fT, ih, am_eq]
theorem qX11_settles' {G : mG} {w : mH} {a0 N : Nat} (z : zRef w a0) (hN : hfi w a0 22 = nI N) (h200 : N ≤ 200) : mC G mX11_settles 2 0 0 [.ref a0] w (mEq (.inl (some (.int (fSet (hai w (a0 + 8)) (hai w (a0 + 1) 14) N)))) w) := by
  have e : fSet (hai w (a0 + 8)) (hai w (a0 + 1) 14) N = fSeR (hai w (a0 + 8)) (hai w (a0 + 1) 14) N := by
    unfold fSet fSeR
    rw [fTr_eq]
  rw [e]
  exact qX11_settles ⟨z.1, z.2.1, z.2.2.2.2.2.2.2.2.2.2.2.2.2.2.2.2.2.2.2.2.2.2.1⟩ z.2.2.2.2.2.2.2.2.1 z.2.2.2.2.2.2.2.2.2.2.2.2.2.2.2.2.2.2.2.2.2.2.2.2.2.2.2.2.2.1 hN h200
def vB (x1 x2 x4 x5 x6 : Int32) : Int32 := (if x1 = 0 then (if x1 = 1 then (if 0 < x4 then (if (vX11_amount x5) ≤ (x2 + (vX11_amount x5)) then (x2 + (vX11_amount x5)) else (vX11_amount x5)) else (if x1 = 2 then (if x6 = 0 then (x2 + (vX11_amount x5)) else (if (vX11_amount x5) ≤ (x2 + (vX11_amount x5)) then (x2 + (vX11_amount x5)) else (vX11_amount x5))) else (x2 + (vX11_amount x5)))) else (if x1 = 2 then (if x6 = 0 then (x2 + (vX11_amount x5)) else (if (vX11_amount x5) ≤ (x2 + (vX11_amount x5)) then (x2 + (vX11_amount x5)) else (vX11_amount x5))) else (x2 + (vX11_amount x5)))) else (if x1 = 1 then (if 0 < x4 then (if (vX11_amount x5) ≤ x2 then x2 else (vX11_amount x5)) else (if x1 = 2 then (if x6 = 0 then x2 else (if (vX11_amount x5) ≤ x2 then x2 else (vX11_amount x5))) else x2)) else (if x1 = 2 then (if x6 = 0 then x2 else (if (vX11_amount x5) ≤ x2 then x2 else (vX11_amount x5))) else x2)))
theorem me_b {G : mG} {w : mH} {a0 : Nat} {x1 x2 x3 x4 x5 x6 : Int32} {Φ : mF} (z : zRef w a0) (k : mW G mX11_measures 3 0 0 106 [(0, .ref a0), (1, .int x1), (2, .int (vB x1 x2 x4 x5 x6)), (3, .int x3), (4, .int x4), (5, .int x5), (6, .int x6)] [] w Φ) : mW G mX11_measures 3 0 0 55 [(0, .ref a0), (1, .int x1), (2, .int x2), (3, .int x3), (4, .int x4), (5, .int x5), (6, .int x6)] [] w Φ := by
  refine gX11_measures_55 ?_ ?_ ?_ ?_ ?_ ?_ ?_ ?_ ?_ ?_ ?_ ?_ ?_ ?_ ?_ ?_ ?_ ?_ ?_ ?_
  · intro c1 c2 c3
    have e : vB x1 x2 x4 x5 x6 = x2 := by unfold vB; rw [if_neg c1, if_neg c2, if_neg c3]
    rw [e] at k
    exact k
  · intro c1 c2 c3 c4
    have e : vB x1 x2 x4 x5 x6 = x2 := by unfold vB; rw [if_neg c1, if_neg c2, if_pos c3, if_pos c4]
    rw [e] at k
    exact k
  · intro c1 c2 c3 c4 c5
    have e : vB x1 x2 x4 x5 x6 = x2 := by unfold vB; rw [if_neg c1, if_neg c2, if_pos c3, if_neg c4, if_pos c5]
    rw [e] at k
    exact k
  · intro c1 c2 c3 c4 c5
    have e : vB x1 x2 x4 x5 x6 = (vX11_amount x5) := by unfold vB; rw [if_neg c1, if_neg c2, if_pos c3, if_neg c4, if_neg c5]
    rw [e] at k
    exact k
  · intro c1 c2 c6 c7
    have e : vB x1 x2 x4 x5 x6 = x2 := by unfold vB; rw [if_neg c1, if_pos c2, if_pos c6, if_pos c7]
    rw [e] at k
    exact k
  · intro c1 c2 c6 c7
    have e : vB x1 x2 x4 x5 x6 = (vX11_amount x5) := by unfold vB; rw [if_neg c1, if_pos c2, if_pos c6, if_neg c7]
    rw [e] at k
    exact k
  · intro c1 c2 c6 c8
    have e : vB x1 x2 x4 x5 x6 = x2 := by unfold vB; rw [if_neg c1, if_pos c2, if_neg c6, if_neg c8]
    rw [e] at k
    exact k
  · intro c1 c2 c6 c8 c9
    have e : vB x1 x2 x4 x5 x6 = x2 := by unfold vB; rw [if_neg c1, if_pos c2, if_neg c6, if_pos c8, if_pos c9]
    rw [e] at k
    exact k
  · intro c1 c2 c6 c8 c9 c10
    have e : vB x1 x2 x4 x5 x6 = x2 := by unfold vB; rw [if_neg c1, if_pos c2, if_neg c6, if_pos c8, if_neg c9, if_pos c10]
    rw [e] at k
    exact k
  · intro c1 c2 c6 c8 c9 c10
    have e : vB x1 x2 x4 x5 x6 = (vX11_amount x5) := by unfold vB; rw [if_neg c1, if_pos c2, if_neg c6, if_pos c8, if_neg c9, if_neg c10]
    rw [e] at k
    exact k
  · intro c1 c11 c12
    have e : vB x1 x2 x4 x5 x6 = (x2 + (vX11_amount x5)) := by unfold vB; rw [if_pos c1, if_neg c11, if_neg c12]
    rw [e] at k
    exact k
  · intro c1 c11 c12 c13
    have e : vB x1 x2 x4 x5 x6 = (x2 + (vX11_amount x5)) := by unfold vB; rw [if_pos c1, if_neg c11, if_pos c12, if_pos c13]
    rw [e] at k
    exact k
  · intro c1 c11 c12 c13 c14
    have e : vB x1 x2 x4 x5 x6 = (x2 + (vX11_amount x5)) := by unfold vB; rw [if_pos c1, if_neg c11, if_pos c12, if_neg c13, if_pos c14]
    rw [e] at k
    exact k
  · intro c1 c11 c12 c13 c14
    have e : vB x1 x2 x4 x5 x6 = (vX11_amount x5) := by unfold vB; rw [if_pos c1, if_neg c11, if_pos c12, if_neg c13, if_neg c14]
    rw [e] at k
    exact k
  · intro c1 c11 c15 c16
    have e : vB x1 x2 x4 x5 x6 = (x2 + (vX11_amount x5)) := by unfold vB; rw [if_pos c1, if_pos c11, if_pos c15, if_pos c16]
    rw [e] at k
    exact k
  · intro c1 c11 c15 c16
    have e : vB x1 x2 x4 x5 x6 = (vX11_amount x5) := by unfold vB; rw [if_pos c1, if_pos c11, if_pos c15, if_neg c16]
    rw [e] at k
    exact k
  · intro c1 c11 c15 c17
    have e : vB x1 x2 x4 x5 x6 = (x2 + (vX11_amount x5)) := by unfold vB; rw [if_pos c1, if_pos c11, if_neg c15, if_neg c17]
    rw [e] at k
    exact k
  · intro c1 c11 c15 c17 c18
    have e : vB x1 x2 x4 x5 x6 = (x2 + (vX11_amount x5)) := by unfold vB; rw [if_pos c1, if_pos c11, if_neg c15, if_pos c17, if_pos c18]
    rw [e] at k
    exact k
  · intro c1 c11 c15 c17 c18 c19
    have e : vB x1 x2 x4 x5 x6 = (x2 + (vX11_amount x5)) := by unfold vB; rw [if_pos c1, if_pos c11, if_neg c15, if_pos c17, if_neg c18, if_pos c19]
    rw [e] at k
    exact k
  · intro c1 c11 c15 c17 c18 c19
    have e : vB x1 x2 x4 x5 x6 = (vX11_amount x5) := by unfold vB; rw [if_pos c1, if_pos c11, if_neg c15, if_pos c17, if_neg c18, if_neg c19]
    rw [e] at k
    exact k
def vD (x1 x2 x5 f : Int32) : Int32 := (if x1 = 4 then (if x5 ≤ 0 then (if 0 ≤ x5 then (x2 + 0) else (if f ≤ 0 then (x2 + 0) else (x2 + 1))) else (if f < 0 then (x2 + 1) else (if 0 ≤ x5 then (x2 + 0) else (if f ≤ 0 then (x2 + 0) else (x2 + 1))))) else x2)
theorem me_d {G : mG} {w : mH} {a0 : Nat} {x1 x2 x3 x4 x5 x6 : Int32} {Φ : mF} (z : zRef w a0) (h4 : vp_in (x4 + 1) 201) (k : mW G mX11_measures 3 0 0 165 [(0, .ref a0), (1, .int x1), (2, .int (vD x1 x2 x5 (hai w (a0 + 8) (x4 + 1).toNatClampNeg))), (3, .int x3), (4, .int x4), (5, .int x5), (6, .int x6)] [] w Φ) : mW G mX11_measures 3 0 0 118 [(0, .ref a0), (1, .int x1), (2, .int x2), (3, .int x3), (4, .int x4), (5, .int x5), (6, .int x6)] [] w Φ := by
  refine gX11_measures_118 (a0_15 := a0 + 8) z.1 z.2.2.2.2.2.2.2.2.1 z.2.2.2.2.2.2.2.2.2.2.2.2.2.2.2.2.2.2.2.2.2.2.2.2.2.2.2.2.2.1 (by intro c1 c2 c3; exact h4) (by intro c1 c2; exact h4) ?_ ?_ ?_ ?_ ?_ ?_ ?_ ?_
  · intro c1
    have e : vD x1 x2 x5 (hai w (a0 + 8) (x4 + 1).toNatClampNeg) = x2 := by unfold vD; rw [if_neg c1]
    rw [e] at k
    exact k
  · intro c1 c2 c3
    have e : vD x1 x2 x5 (hai w (a0 + 8) (x4 + 1).toNatClampNeg) = (x2 + 0) := by unfold vD; rw [if_pos c1, if_pos c2, if_pos c3]
    rw [e] at k
    exact k
  · intro c1 c2 c3 c4
    have e : vD x1 x2 x5 (hai w (a0 + 8) (x4 + 1).toNatClampNeg) = (x2 + 0) := by unfold vD; rw [if_pos c1, if_pos c2, if_neg c3, if_pos c4]
    rw [e] at k
    exact k
  · intro c1 c2 c3 c4
    have e : vD x1 x2 x5 (hai w (a0 + 8) (x4 + 1).toNatClampNeg) = (x2 + 1) := by unfold vD; rw [if_pos c1, if_pos c2, if_neg c3, if_neg c4]
    rw [e] at k
    exact k
  · intro c1 c2 c5
    have e : vD x1 x2 x5 (hai w (a0 + 8) (x4 + 1).toNatClampNeg) = (x2 + 1) := by unfold vD; rw [if_pos c1, if_neg c2, if_pos c5]
    rw [e] at k
    exact k
  · intro c1 c2 c5 c6
    have e : vD x1 x2 x5 (hai w (a0 + 8) (x4 + 1).toNatClampNeg) = (x2 + 0) := by unfold vD; rw [if_pos c1, if_neg c2, if_neg c5, if_pos c6]
    rw [e] at k
    exact k
  · intro c1 c2 c5 c6 c7
    have e : vD x1 x2 x5 (hai w (a0 + 8) (x4 + 1).toNatClampNeg) = (x2 + 0) := by unfold vD; rw [if_pos c1, if_neg c2, if_neg c5, if_neg c6, if_pos c7]
    rw [e] at k
    exact k
  · intro c1 c2 c5 c6 c7
    have e : vD x1 x2 x5 (hai w (a0 + 8) (x4 + 1).toNatClampNeg) = (x2 + 1) := by unfold vD; rw [if_pos c1, if_neg c2, if_neg c5, if_neg c6, if_neg c7]
    rw [e] at k
    exact k
def vE (x1 x2 f : Int32) : Int32 := (if x1 = 5 then (x2 + f) else x2)
theorem me_e {G : mG} {w : mH} {a0 : Nat} {x1 x2 x3 x4 x5 x6 : Int32} {Φ : mF} (z : zRef w a0) (h4 : vp_in x4 200) (k : mW G mX11_measures 3 0 0 180 [(0, .ref a0), (1, .int x1), (2, .int (vE x1 x2 (hai w (a0 + 14) x4.toNatClampNeg))), (3, .int x3), (4, .int x4), (5, .int x5), (6, .int x6)] [] w Φ) : mW G mX11_measures 3 0 0 165 [(0, .ref a0), (1, .int x1), (2, .int x2), (3, .int x3), (4, .int x4), (5, .int x5), (6, .int x6)] [] w Φ := by
  refine gX11_measures_165 (a0_21 := a0 + 14) z.1 z.2.2.2.2.2.2.2.2.2.2.2.2.2.2.1 z.2.2.2.2.2.2.2.2.2.2.2.2.2.2.2.2.2.2.2.2.2.2.2.2.2.2.2.2.2.2.2.2.2.2.2.1 (by intro c1; exact h4) ?_ ?_
  · intro c1
    have e : vE x1 x2 (hai w (a0 + 14) x4.toNatClampNeg) = x2 := by unfold vE; rw [if_neg c1]
    rw [e] at k
    exact k
  · intro c1
    have e : vE x1 x2 (hai w (a0 + 14) x4.toNatClampNeg) = (x2 + (hai w (a0 + 14) x4.toNatClampNeg)) := by unfold vE; rw [if_pos c1]
    rw [e] at k
    exact k
def vF (x1 x2 x4 f g : Int32) : Int32 := (if x1 = 6 then (if x4 = 0 then (x2 + (vX11_amount (f - 0))) else (x2 + (vX11_amount (f - g)))) else x2)
theorem me_f {G : mG} {w : mH} {a0 : Nat} {x1 x2 x3 x4 x5 x6 : Int32} {Φ : mF} (z : zRef w a0) (h4 : vp_in x4 200) (h5 : ¬ x4 = 0 → vp_in (x4 - 1) 200) (k : mW G mX11_measures 3 0 0 218 [(0, .ref a0), (1, .int x1), (2, .int (vF x1 x2 x4 (hai w (a0 + 12) x4.toNatClampNeg) (hai w (a0 + 12) (x4 - 1).toNatClampNeg))), (3, .int x3), (4, .int x4), (5, .int x5), (6, .int x6)] [] w Φ) : mW G mX11_measures 3 0 0 180 [(0, .ref a0), (1, .int x1), (2, .int x2), (3, .int x3), (4, .int x4), (5, .int x5), (6, .int x6)] [] w Φ := by
  refine gX11_measures_180 (a0_19 := a0 + 12) z.1 z.2.2.2.2.2.2.2.2.2.2.2.2.1 z.2.2.2.2.2.2.2.2.2.2.2.2.2.2.2.2.2.2.2.2.2.2.2.2.2.2.2.2.2.2.2.2.2.1 (by intro c1; exact h4) (by intro c1 c2; exact h5 c2) ?_ ?_ ?_
  · intro c1
    have e : vF x1 x2 x4 (hai w (a0 + 12) x4.toNatClampNeg) (hai w (a0 + 12) (x4 - 1).toNatClampNeg) = x2 := by unfold vF; rw [if_neg c1]
    rw [e] at k
    exact k
  · intro c1 c2
    have e : vF x1 x2 x4 (hai w (a0 + 12) x4.toNatClampNeg) (hai w (a0 + 12) (x4 - 1).toNatClampNeg) = (x2 + (vX11_amount ((hai w (a0 + 12) x4.toNatClampNeg) - (hai w (a0 + 12) ((x4 - 1).toNatClampNeg))))) := by unfold vF; rw [if_pos c1, if_neg c2]
    rw [e] at k
    exact k
  · intro c1 c2
    have e : vF x1 x2 x4 (hai w (a0 + 12) x4.toNatClampNeg) (hai w (a0 + 12) (x4 - 1).toNatClampNeg) = (x2 + (vX11_amount ((hai w (a0 + 12) x4.toNatClampNeg) - 0))) := by unfold vF; rw [if_pos c1, if_pos c2]
    rw [e] at k
    exact k
theorem me_a {G : mG} {w : mH} {a0 N t : Nat} {x1 x2 x3 : Int32} {Φ : mF} (z : zRef w a0) (hN : hfi w a0 22 = nI N) (h200 : N ≤ 200) (ht : t ≤ N + 1) (hE : t = N + 1 → mW G mX11_measures 3 0 0 224 [(0, .ref a0), (1, .int x1), (2, .int x2), (3, .int x3), (4, .int (nI t))] [] w Φ) (hC : t ≤ N → mW G mX11_measures 3 0 0 55 [(0, .ref a0), (1, .int x1), (2, .int x2), (3, .int x3), (4, .int (nI t)), (5, .int (hai w (a0 + 8) t)), (6, .int (vX6_areOpposite (hai w (a0 + 8) t) x3))] [] w Φ) : mW G mX11_measures 3 0 0 12 [(0, .ref a0), (1, .int x1), (2, .int x2), (3, .int x3), (4, .int (nI t))] [] w Φ := by
  refine gX11_measures_12 (a0_15 := a0 + 8) z.1 z.2.2.2.2.2.2.2.2.1 z.2.2.2.2.2.2.2.2.2.2.2.2.2.2.2.2.2.2.2.2.2.2.2.2.2.2.2.2.2.1 (by intro c1; rw [hN] at c1; rw [m_lt (by omega) (by omega)] at c1; exact m_vp (by omega) (by decide)) ?_ ?_ ?_ ?_ ?_ ?_ ?_ ?_
  · intro c1
    rw [hN, m_lt (by omega) (by omega)] at c1
    exact hE (by omega)
  · intro c1 c2 c3
    rw [hN, m_lt (by omega) (by omega)] at c1
    rw [m_cl (by omega)] at c2
    rw [m_cl (by omega)] at c3
    rw [m_cl (by omega)]
    have e : vX6_areOpposite (hai w (a0 + 8) t) x3 = 0 := by unfold vX6_areOpposite; rw [if_pos c2, if_pos c3]
    have := hC (by omega)
    rw [e] at this
    exact this
  · intro c1 c2 c3 c4
    rw [hN, m_lt (by omega) (by omega)] at c1
    rw [m_cl (by omega)] at c2
    rw [m_cl (by omega)] at c3
    rw [m_cl (by omega)]
    have e : vX6_areOpposite (hai w (a0 + 8) t) x3 = 0 := by unfold vX6_areOpposite; rw [if_pos c2, if_neg c3, if_pos c4]
    have := hC (by omega)
    rw [e] at this
    exact this
  · intro c1 c2 c3 c4
    rw [hN, m_lt (by omega) (by omega)] at c1
    rw [m_cl (by omega)] at c2
    rw [m_cl (by omega)] at c3
    rw [m_cl (by omega)]
    have e : vX6_areOpposite (hai w (a0 + 8) t) x3 = 1 := by unfold vX6_areOpposite; rw [if_pos c2, if_neg c3, if_neg c4]
    have := hC (by omega)
    rw [e] at this
    exact this
  · intro c1 c2 c5
    rw [hN, m_lt (by omega) (by omega)] at c1
    rw [m_cl (by omega)] at c2
    rw [m_cl (by omega)]
    have e : vX6_areOpposite (hai w (a0 + 8) t) x3 = 1 := by unfold vX6_areOpposite; rw [if_neg c2, if_pos c5]
    have := hC (by omega)
    rw [e] at this
    exact this
  · intro c1 c2 c5 c6
    rw [hN, m_lt (by omega) (by omega)] at c1
    rw [m_cl (by omega)] at c2
    rw [m_cl (by omega)] at c6
    rw [m_cl (by omega)]
    have e : vX6_areOpposite (hai w (a0 + 8) t) x3 = 0 := by unfold vX6_areOpposite; rw [if_neg c2, if_neg c5, if_pos c6]
    have := hC (by omega)
    rw [e] at this
    exact this
  · intro c1 c2 c5 c6 c7
    rw [hN, m_lt (by omega) (by omega)] at c1
    rw [m_cl (by omega)] at c2
    rw [m_cl (by omega)] at c6
    rw [m_cl (by omega)]
    have e : vX6_areOpposite (hai w (a0 + 8) t) x3 = 0 := by unfold vX6_areOpposite; rw [if_neg c2, if_neg c5, if_neg c6, if_pos c7]
    have := hC (by omega)
    rw [e] at this
    exact this
  · intro c1 c2 c5 c6 c7
    rw [hN, m_lt (by omega) (by omega)] at c1
    rw [m_cl (by omega)] at c2
    rw [m_cl (by omega)] at c6
    rw [m_cl (by omega)]
    have e : vX6_areOpposite (hai w (a0 + 8) t) x3 = 1 := by unfold vX6_areOpposite; rw [if_neg c2, if_neg c5, if_neg c6, if_neg c7]
    have := hC (by omega)
    rw [e] at this
    exact this
def mN (x1 : Int32) (E A X : Nat → Int32) (N t : Nat) : Int32 := if x1 = 0 then fSum E t else if x1 = 1 then fMax E (t - 1) else if x1 = 2 then fOver E (t - 1) else if x1 = 4 then fCross E (min t N) else if x1 = 5 then fSat X (min t N) else if x1 = 6 then fAct A (min t N) else 0
theorem ao_self (x : Int32) : vX6_areOpposite x x = 0 := by
  unfold vX6_areOpposite
  have h1 : x ≤ 0 ↔ x.toInt ≤ 0 := Int32.le_iff_toInt_le
  have h2 : 0 ≤ x ↔ 0 ≤ x.toInt := Int32.le_iff_toInt_le
  have h5 : x < 0 ↔ x.toInt < 0 := Int32.lt_iff_toInt_lt
  simp only [h1, h2, h5]
  repeat' split
  all_goals first | rfl | omega
theorem mN_s {x1 : Int32} {E A X : Nat → Int32} {N t : Nat} (ht : t < N) (h200 : N ≤ 200) : mN x1 E A X N (t + 1) = vF x1 (vE x1 (vD x1 (vB x1 (mN x1 E A X N t) (nI t) (E t) (vX6_areOpposite (E t) (E 0))) (E t) (E (t + 1))) (X t)) (nI t) (A t) (A (t - 1)) := by
  have m1 : min (t + 1) N = t + 1 := by omega
  have m0 : min t N = t := by omega
  have p0 : 0 < nI t ↔ 0 < t := m_lt (a := 0) (by omega) (by omega)
  by_cases h0 : x1 = 0
  · subst h0
    simp only [mN, vB, vD, vE, vF, eq_false (show ¬ (0 : Int32) = 1 by decide), eq_false (show ¬ (0 : Int32) = 2 by decide), eq_false (show ¬ (0 : Int32) = 3 by decide), eq_false (show ¬ (0 : Int32) = 4 by decide), eq_false (show ¬ (0 : Int32) = 5 by decide), eq_false (show ¬ (0 : Int32) = 6 by decide), eq_false (show ¬ (0 : Int32) = 7 by decide), if_true, if_false]
    rw [fSum, am_eq]
  by_cases h1 : x1 = 1
  · subst h1
    simp only [mN, vB, vD, vE, vF, eq_false (show ¬ (1 : Int32) = 0 by decide), eq_false (show ¬ (1 : Int32) = 2 by decide), eq_false (show ¬ (1 : Int32) = 3 by decide), eq_false (show ¬ (1 : Int32) = 4 by decide), eq_false (show ¬ (1 : Int32) = 5 by decide), eq_false (show ¬ (1 : Int32) = 6 by decide), eq_false (show ¬ (1 : Int32) = 7 by decide), if_true, if_false]
    cases t with
      | zero => simp only [p0, Nat.lt_irrefl, if_false]
      | succ k => simp only [p0, Nat.succ_pos, if_true, am_eq, am_mx]; rfl
  by_cases h2 : x1 = 2
  · subst h2
    simp only [mN, vB, vD, vE, vF, eq_false (show ¬ (2 : Int32) = 0 by decide), eq_false (show ¬ (2 : Int32) = 1 by decide), eq_false (show ¬ (2 : Int32) = 3 by decide), eq_false (show ¬ (2 : Int32) = 4 by decide), eq_false (show ¬ (2 : Int32) = 5 by decide), eq_false (show ¬ (2 : Int32) = 6 by decide), eq_false (show ¬ (2 : Int32) = 7 by decide), if_true, if_false]
    cases t with
      | zero =>
        rw [if_pos (ao_self _)]
      | succ k =>
        rw [am_eq, am_mx, ao_sy]; rfl
  by_cases h4 : x1 = 4
  · subst h4
    simp only [mN, vB, vD, vE, vF, eq_false (show ¬ (4 : Int32) = 0 by decide), eq_false (show ¬ (4 : Int32) = 1 by decide), eq_false (show ¬ (4 : Int32) = 2 by decide), eq_false (show ¬ (4 : Int32) = 3 by decide), eq_false (show ¬ (4 : Int32) = 5 by decide), eq_false (show ¬ (4 : Int32) = 6 by decide), eq_false (show ¬ (4 : Int32) = 7 by decide), if_true, if_false]
    rw [m1, m0, fCross]
    unfold vX6_areOpposite
    have z1 : ((1 : Int32) = 0) = False := eq_false (by decide)
    by_cases q1 : E t ≤ 0 <;> by_cases q2 : 0 ≤ E t <;> by_cases q3 : E (t + 1) ≤ 0 <;> by_cases q4 : E (t + 1) < 0 <;> simp only [q1, q2, q3, q4, z1, if_true, if_false, Int32.add_zero]
  by_cases h5 : x1 = 5
  · subst h5
    simp only [mN, vB, vD, vE, vF, eq_false (show ¬ (5 : Int32) = 0 by decide), eq_false (show ¬ (5 : Int32) = 1 by decide), eq_false (show ¬ (5 : Int32) = 2 by decide), eq_false (show ¬ (5 : Int32) = 3 by decide), eq_false (show ¬ (5 : Int32) = 4 by decide), eq_false (show ¬ (5 : Int32) = 6 by decide), eq_false (show ¬ (5 : Int32) = 7 by decide), if_true, if_false]
    rw [m1, m0, fSat]
  by_cases h6 : x1 = 6
  · subst h6
    simp only [mN, vB, vD, vE, vF, eq_false (show ¬ (6 : Int32) = 0 by decide), eq_false (show ¬ (6 : Int32) = 1 by decide), eq_false (show ¬ (6 : Int32) = 2 by decide), eq_false (show ¬ (6 : Int32) = 3 by decide), eq_false (show ¬ (6 : Int32) = 4 by decide), eq_false (show ¬ (6 : Int32) = 5 by decide), eq_false (show ¬ (6 : Int32) = 7 by decide), if_true, if_false]
    rw [m1, m0, fAct, ← am_eq]
    cases t with
    | zero => rw [if_pos (show nI 0 = 0 from rfl)]; rfl
    | succ k => rw [if_neg (fun q => by have := (m_le0 (a := k + 1) (by omega)).mp (by rw [q]; exact Int32.le_refl _); omega)]; rfl
  simp only [mN, vB, vD, vE, vF, if_neg h0, if_neg h1, if_neg h2, if_neg h4, if_neg h5, if_neg h6]
theorem mN_e {x1 : Int32} {E A X : Nat → Int32} {N : Nat} (h200 : N ≤ 200) (h1 : 1 ≤ N) : mN x1 E A X N (N + 1) = vB x1 (mN x1 E A X N N) (nI N) (E N) (vX6_areOpposite (E N) (E 0)) := by
  have m1 : min (N + 1) N = N := by omega
  have m0 : min N N = N := by omega
  obtain ⟨k, rfl⟩ : ∃ k, N = k + 1 := ⟨N - 1, by omega⟩
  have p0 : 0 < nI (k + 1) ↔ 0 < k + 1 := m_lt (a := 0) (by omega) (by omega)
  by_cases h0 : x1 = 0
  · subst h0
    simp only [mN, vB, eq_false (show ¬ (0 : Int32) = 1 by decide), eq_false (show ¬ (0 : Int32) = 2 by decide), eq_false (show ¬ (0 : Int32) = 3 by decide), eq_false (show ¬ (0 : Int32) = 4 by decide), eq_false (show ¬ (0 : Int32) = 5 by decide), eq_false (show ¬ (0 : Int32) = 6 by decide), eq_false (show ¬ (0 : Int32) = 7 by decide), if_true, if_false]
    rw [fSum, am_eq]
  by_cases h1 : x1 = 1
  · subst h1
    simp only [mN, vB, eq_false (show ¬ (1 : Int32) = 0 by decide), eq_false (show ¬ (1 : Int32) = 2 by decide), eq_false (show ¬ (1 : Int32) = 3 by decide), eq_false (show ¬ (1 : Int32) = 4 by decide), eq_false (show ¬ (1 : Int32) = 5 by decide), eq_false (show ¬ (1 : Int32) = 6 by decide), eq_false (show ¬ (1 : Int32) = 7 by decide), if_true, if_false]
    simp only [p0, Nat.succ_pos, if_true, am_eq, am_mx]; rfl
  by_cases h2 : x1 = 2
  · subst h2
    simp only [mN, vB, eq_false (show ¬ (2 : Int32) = 0 by decide), eq_false (show ¬ (2 : Int32) = 1 by decide), eq_false (show ¬ (2 : Int32) = 3 by decide), eq_false (show ¬ (2 : Int32) = 4 by decide), eq_false (show ¬ (2 : Int32) = 5 by decide), eq_false (show ¬ (2 : Int32) = 6 by decide), eq_false (show ¬ (2 : Int32) = 7 by decide), if_true, if_false]
    rw [am_eq, am_mx, ao_sy]; rfl
  by_cases h4 : x1 = 4
  · subst h4
    simp only [mN, vB, eq_false (show ¬ (4 : Int32) = 0 by decide), eq_false (show ¬ (4 : Int32) = 1 by decide), eq_false (show ¬ (4 : Int32) = 2 by decide), eq_false (show ¬ (4 : Int32) = 3 by decide), eq_false (show ¬ (4 : Int32) = 5 by decide), eq_false (show ¬ (4 : Int32) = 6 by decide), eq_false (show ¬ (4 : Int32) = 7 by decide), if_true, if_false]
    rw [m1, m0]
  by_cases h5 : x1 = 5
  · subst h5
    simp only [mN, vB, eq_false (show ¬ (5 : Int32) = 0 by decide), eq_false (show ¬ (5 : Int32) = 1 by decide), eq_false (show ¬ (5 : Int32) = 2 by decide), eq_false (show ¬ (5 : Int32) = 3 by decide), eq_false (show ¬ (5 : Int32) = 4 by decide), eq_false (show ¬ (5 : Int32) = 6 by decide), eq_false (show ¬ (5 : Int32) = 7 by decide), if_true, if_false]
    rw [m1, m0]
  by_cases h6 : x1 = 6
  · subst h6
    simp only [mN, vB, eq_false (show ¬ (6 : Int32) = 0 by decide), eq_false (show ¬ (6 : Int32) = 1 by decide), eq_false (show ¬ (6 : Int32) = 2 by decide), eq_false (show ¬ (6 : Int32) = 3 by decide), eq_false (show ¬ (6 : Int32) = 4 by decide), eq_false (show ¬ (6 : Int32) = 5 by decide), eq_false (show ¬ (6 : Int32) = 7 by decide), if_true, if_false]
    rw [m1, m0]
  simp only [mN, vB, if_neg h0, if_neg h1, if_neg h2, if_neg h4, if_neg h5, if_neg h6]

theorem u1872 : (Cond.code ⟨"LineFollowerBenchModel", "settles", "()I"⟩ prog_13_method_44_code 2 (some .int) : Cond) ∈ mTs := mTs_in 1872 (by decide +kernel) (by decide +kernel)
theorem co_X11_settles : mCode mX11_settles := ⟨u1872, u85, by decide⟩
theorem u1869 : (Cond.methodLink "LineFollowerBenchModel" 229 ⟨"LineFollowerBenchModel", "settles", "()I"⟩ : Cond) ∈ mTs := mTs_in 1869 (by decide +kernel) (by decide +kernel)
theorem u1871 : (Cond.instanceMethod ⟨"LineFollowerBenchModel", "settles", "()I"⟩ : Cond) ∈ mTs := mTs_in 1871 (by decide +kernel) (by decide +kernel)
theorem u61 : (Cond.selects "LineFollowerBenchModel" ⟨"LineFollowerBenchModel", "settles", "()I"⟩ ⟨"LineFollowerBenchModel", "settles", "()I"⟩ : Cond) ∈ mTs := mTs_in 61 (by decide +kernel) (by decide +kernel)
theorem l_X11_229 : mLinkV "LineFollowerBenchModel" 229 0 mX11_settles := ⟨⟨by decide, by decide, by decide +kernel⟩, co_X11_settles, u1869, u1871, u61⟩
set_option maxHeartbeats 4000000 in
set_option maxRecDepth 100000 in
theorem gX11_measures_224 {G : mG} {w : mH} {Φ : mF} {a0 : Nat} {x1 x2 x3 x4 : Int32} {N a0_15 n_a0_15 : Nat} (h1 : hk w a0 = (11, 0)) (h2 : hfr w a0 15 = some a0_15) (h3 : hk w a0_15 = (16, n_a0_15)) (s1 : (¬ (x1 = 3)) → (x1 = 7) → vp_in (hfi w a0 22) n_a0_15) (h4 : zRef w a0) (s2 : (x1 = 3) → hfi w a0 22 = nI N) (s3 : (x1 = 3) → N ≤ 200) (k1 : (¬ (x1 = 3)) → (¬ (x1 = 7)) → Φ (.inl (some (.int x2))) w) (k2 : (¬ (x1 = 3)) → (x1 = 7) → Φ (.inl (some (.int (hai w a0_15 ((hfi w a0 22).toNatClampNeg))))) w) (k3 : (x1 = 3) → Φ (.inl (some (.int (fSet (hai w (a0 + 8)) (hai w (a0 + 1) 14) N)))) w) : mW G mX11_measures 3 0 0 224 [(0, .ref a0), (1, .int x1), (2, .int x2), (3, .int x3), (4, .int x4)] [] w Φ := by
  refine mW_iload_n (j := 1) dX11_measures_224 rfl rfl ?_
  refine mW_iconst (v := 3) dX11_measures_225 (by decide) ?_
  refine mW_icmp_ne (tgt := 236) dX11_measures_226 (by decide) (fun c1 => ?_) (fun c1 => ?_)
  · refine mW_iload_n (j := 1) dX11_measures_236 rfl rfl ?_
    refine mW_bipush (v := 7) dX11_measures_237 (by decide) ?_
    refine mW_icmp_ne (tgt := 254) dX11_measures_239 (by decide) (fun c2 => ?_) (fun c2 => ?_)
    · refine mW_iload_n (j := 2) dX11_measures_254 rfl rfl ?_
      exact mW_iret dX11_measures_255 rfl (k1 c1 c2)
    · refine mW_aload_n (j := 0) dX11_measures_242 rfl rfl ?_
      refine mW_getR dX11_measures_243 f_X11_39 h1 rfl h2 ?_
      refine mW_aload_n (j := 0) dX11_measures_246 rfl rfl ?_
      refine mW_get dX11_measures_247 f_X11_218 h1 rfl ?_
      refine mW_ialdJ dX11_measures_250 h3 (s1 c1 c2) rfl ?_
      refine mW_goto (tgt := 255) dX11_measures_251 (by decide) ?_
      exact mW_iret dX11_measures_255 rfl (k2 c1 c2)
  · refine mW_aload_n (j := 0) dX11_measures_229 rfl rfl ?_
    refine mW_callVe (As := []) (rest := []) (kc2 := 0) (ks2 := 0) dX11_measures_230 l_X11_229 rfl h1 rfl (by decide) (qX11_settles' (w := w) (a0 := a0) h4 (s2 c1) (s3 c1)) (Nat.le_of_ble_eq_true rfl) (by decide) rfl rfl ?_
    refine mW_goto (tgt := 255) dX11_measures_233 (by decide) ?_
    exact mW_iret dX11_measures_255 rfl (k3 c1)
theorem me_c {G : mG} {w : mH} {a0 N t : Nat} {x1 x2 x3 x5 x6 : Int32} {Φ : mF} (z : zRef w a0) (hN : hfi w a0 22 = nI N) (h200 : N ≤ 200) (ht : t ≤ N) (hE : t = N → mW G mX11_measures 3 0 0 218 [(0, .ref a0), (1, .int x1), (2, .int x2), (3, .int x3), (4, .int (nI t)), (5, .int x5), (6, .int x6)] [] w Φ) (hC : t < N → mW G mX11_measures 3 0 0 118 [(0, .ref a0), (1, .int x1), (2, .int x2), (3, .int x3), (4, .int (nI t)), (5, .int x5), (6, .int x6)] [] w Φ) : mW G mX11_measures 3 0 0 106 [(0, .ref a0), (1, .int x1), (2, .int x2), (3, .int x3), (4, .int (nI t)), (5, .int x5), (6, .int x6)] [] w Φ := by
  have e : nI t = hfi w a0 22 ↔ t = N := by
    rw [hN]
    exact ⟨fun q => by have := congrArg Int32.toNatClampNeg q; rwa [m_cl (by omega), m_cl (by omega)] at this, fun q => by rw [q]⟩
  refine gX11_measures_106 z.1 ?_ ?_
  · intro c1
    rw [e] at c1
    exact hC (by omega)
  · intro c1
    rw [e] at c1
    exact hE c1
theorem me_g {G : mG} {w : mH} {a0 t : Nat} {x1 x2 x3 x5 x6 : Int32} {Φ : mF} (z : zRef w a0) (h : mW G mX11_measures 3 0 0 12 [(0, .ref a0), (1, .int x1), (2, .int x2), (3, .int x3), (4, .int (nI (t + 1)))] [] w Φ) : mW G mX11_measures 3 0 0 218 [(0, .ref a0), (1, .int x1), (2, .int x2), (3, .int x3), (4, .int (nI t)), (5, .int x5), (6, .int x6)] [] w Φ := by
  refine gX11_measures_218 ?_
  rw [nI_1]
  exact h
theorem me_loop {G : mG} {w : mH} {a0 N : Nat} {x1 : Int32} {Φ : mF} (z : zRef w a0) (hN : hfi w a0 22 = nI N) (h200 : N ≤ 200) (h1 : 1 ≤ N) (hΦ : mW G mX11_measures 3 0 0 224 [(0, .ref a0), (1, .int x1), (2, .int (mN x1 (hai w (a0 + 8)) (hai w (a0 + 12)) (hai w (a0 + 14)) N (N + 1))), (3, .int (hai w (a0 + 8) 0)), (4, .int (nI (N + 1)))] [] w Φ) :
    ∀ j t, t + j = N + 1 → mW G mX11_measures 3 0 0 12 [(0, .ref a0), (1, .int x1), (2, .int (mN x1 (hai w (a0 + 8)) (hai w (a0 + 12)) (hai w (a0 + 14)) N t)), (3, .int (hai w (a0 + 8) 0)), (4, .int (nI t))] [] w Φ := by
  intro j
  induction j with
  | zero =>
    intro t ht
    have : t = N + 1 := by omega
    subst this
    exact me_a z hN h200 (by omega) (fun _ => hΦ) (fun q => absurd q (by omega))
  | succ j ih =>
    intro t ht
    refine me_a z hN h200 (by omega) (fun q => absurd q (by omega)) (fun hle => ?_)
    refine me_b z ?_
    refine me_c z hN h200 hle (fun q => ?_) (fun hlt => ?_)
    · subst q
      rw [← mN_e h200 h1]
      exact me_g z (ih (t + 1) (by omega))
    · refine me_d z (by rw [nI_1]; exact m_vp (by omega) (by decide)) ?_
      refine me_e z (m_vp (by omega) (by decide)) ?_
      refine me_f z (m_vp (by omega) (by decide)) (fun q => by
        obtain ⟨k, rfl⟩ := m_t3 q
        rw [m_sub1]
        exact m_vp (by omega) (by decide)) ?_
      have i1 : (nI t + 1).toNatClampNeg = t + 1 := by rw [nI_1]; exact m_cl (by omega)
      have i0 : (nI t).toNatClampNeg = t := m_cl (by omega)
      have key : ∀ (g : Int32), vF x1 (vE x1 (vD x1 (vB x1 (mN x1 (hai w (a0 + 8)) (hai w (a0 + 12)) (hai w (a0 + 14)) N t) (nI t) (hai w (a0 + 8) t) (vX6_areOpposite (hai w (a0 + 8) t) (hai w (a0 + 8) 0))) (hai w (a0 + 8) t) (hai w (a0 + 8) (t + 1))) (hai w (a0 + 14) t)) (nI t) (hai w (a0 + 12) t) (hai w (a0 + 12) (nI t - 1).toNatClampNeg) = mN x1 (hai w (a0 + 8)) (hai w (a0 + 12)) (hai w (a0 + 14)) N (t + 1) := fun _ => by
        rw [mN_s hlt h200]
        cases t with
        | zero => unfold vF; simp only [show (nI 0 = 0) = True from eq_true rfl, if_true]
        | succ k => rw [m_sub1, m_cl (by omega)]; rfl
      rw [i1, i0, key 0]
      exact me_g z (ih (t + 1) (by omega))
def rMe (x1 : Int32) (E A X : Nat → Int32) (band : Int32) (N : Nat) : Int32 := if x1 = 3 then fSet E band N else if x1 = 7 then E N else mN x1 E A X N (N + 1)
theorem rX11_measures {G : mG} {w : mH} {a0 N : Nat} {x1 : Int32} (z : zRef w a0) (hN : hfi w a0 22 = nI N) (h200 : N ≤ 200) (h1 : 1 ≤ N) : mC G mX11_measures 3 0 0 [.ref a0, .int x1] w (mEq (.inl (some (.int (rMe x1 (hai w (a0 + 8)) (hai w (a0 + 12)) (hai w (a0 + 14)) (hai w (a0 + 1) 14) N)))) w) := by
  refine mC_of (by decide +kernel) rfl (Nat.le_of_ble_eq_true rfl) rfl ?_
  refine gX11_measures_0 (a0_15 := a0 + 8) z.1 z.2.2.2.2.2.2.2.2.1 z.2.2.2.2.2.2.2.2.2.2.2.2.2.2.2.2.2.2.2.2.2.2.2.2.2.2.2.2.2.1 (by intros; unfold vp_in; decide) ?_
  have e0 : ∀ E A X : Nat → Int32, (0 : Int32) = mN x1 E A X N 0 := fun E A X => by
    unfold mN
    rw [Nat.zero_min]
    repeat' split
    all_goals rfl
  have := me_loop (G := G) (x1 := x1) (Φ := mEq (.inl (some (.int (rMe x1 (hai w (a0 + 8)) (hai w (a0 + 12)) (hai w (a0 + 14)) (hai w (a0 + 1) 14) N)))) w) z hN h200 h1 ?_ (N + 1) 0 (by omega)
  · rw [← e0] at this
    exact this
  refine gX11_measures_224 (N := N) (a0_15 := a0 + 8) z.1 z.2.2.2.2.2.2.2.2.1 z.2.2.2.2.2.2.2.2.2.2.2.2.2.2.2.2.2.2.2.2.2.2.2.2.2.2.2.2.2.1 (by intro c1 c2; rw [hN]; exact m_vp (by omega) (by decide)) z (by intro c1; exact hN) (by intro c1; exact h200) ?_ ?_ ?_
  · intro c1 c2
    unfold rMe
    rw [if_neg c1, if_neg c2]
    exact mEq_rf
  · intro c1 c2
    unfold rMe
    rw [if_neg c1, if_pos c2, hN, m_cl (by omega)]
    exact mEq_rf
  · intro c1
    unfold rMe
    rw [if_pos c1]
    exact mEq_rf

