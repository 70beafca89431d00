theorem made_v {w : mH} {a N : Nat} (hN : hfi w a 6 = nI N) (h : N ≤ 200) : vX6_isMade w a = if N = 0 then 0 else 1 := by
  unfold vX6_isMade
  rw [hN]
  by_cases q : N = 0
  · rw [if_pos q, if_pos ((m_le0 (by omega)).mpr q)]
  · rw [if_neg q, if_neg (fun c => q ((m_le0 (by omega)).mp c)), if_neg (fun c => absurd ((m_200 (by omega)).mp c) (by omega))]
theorem made_n {w : mH} {a N : Nat} (hN : hfi w a 6 = nI N) (h : N ≤ 200) (c : vX6_isMade w a = 0) : N = 0 := by
  rw [made_v hN h] at c
  by_cases q : N = 0
  · exact q
  · rw [if_neg q] at c; exact absurd c (by decide)
theorem made_y {w : mH} {a N : Nat} (hN : hfi w a 6 = nI N) (h : N ≤ 200) (c : ¬ vX6_isMade w a = 0) : ¬ N = 0 := fun q => by
  rw [made_v hN h, if_pos q] at c; exact c rfl
theorem tAt_of {w : mH} {a N : Nat} (z : zTra w a) (hN : hfi w a 6 = nI N) (h200 : N ≤ 200) : tAt w a (fun k => a + 1 + k) N := tRw_at (T := fun j t => hai w (a + 1 + j) t) z ⟨hN, fun _ _ => rfl, fun _ _ => ⟨rfl, rfl, rfl, rfl, rfl⟩⟩ h200
theorem part_v {w : mH} {a N t j : Nat} {T : Nat → Nat → Int32} (h : tRw w a T N) (h200 : N ≤ 200) (ht : t ≤ N) (hj : j ≤ 5) (hq : j = 0 ∨ t < N) : vX6_part w (nI t) (nI j) (a + 2) (a + 3) (a + 4) (a + 5) (a + 6) (a + 1) = T j t := by
  unfold vX6_part
  rw [m_cl (show t ≤ 70000 by omega)]
  by_cases j0 : j = 0
  · subst j0
    rw [if_pos (by decide), show (0 : Int32) = nI 0 from rfl, show (200 : Int32) = nI 200 from rfl, m_in (by omega) (by omega) (by decide), if_neg (by decide)]
    exact h.2.1 t ht
  · have htN : t < N := by omega
    obtain ⟨g1, g2, g3, g4, g5⟩ := h.2.2 t htN
    have wi : ¬ vX10_isWithin (nI t) 0 199 = 0 := by
      rw [show (0 : Int32) = nI 0 from rfl, show (199 : Int32) = nI 199 from rfl, m_in (by omega) (by omega) (by decide)]; decide
    have hc : j = 1 ∨ j = 2 ∨ j = 3 ∨ j = 4 ∨ j = 5 := by omega
    rcases hc with e | e | e | e | e <;> subst e
    · rw [if_neg (by decide), if_neg wi, if_pos (by decide)]; exact g1
    · rw [if_neg (by decide), if_neg wi, if_neg (by decide), if_pos (by decide)]; exact g2
    · rw [if_neg (by decide), if_neg wi, if_neg (by decide), if_neg (by decide), if_pos (by decide)]; exact g3
    · rw [if_neg (by decide), if_neg wi, if_neg (by decide), if_neg (by decide), if_neg (by decide), if_pos (by decide)]; exact g4
    · rw [if_neg (by decide), if_neg wi, if_neg (by decide), if_neg (by decide), if_neg (by decide), if_neg (by decide)]; exact g5
theorem has_w {x : Int32} : ∀ n, n ≤ 5 → ((if x < 0 then (0 : Int32) else if nI n ≤ x then 0 else if 5 ≤ x then 0 else 1) = 0 ↔ vX10_isWithin x 0 (nI n - 1) = 0) := by
  intro n hn
  have e : (nI n - 1).toInt = (n : Int) - 1 := by
    have hc : n = 0 ∨ n = 1 ∨ n = 2 ∨ n = 3 ∨ n = 4 ∨ n = 5 := by omega
    rcases hc with e | e | e | e | e | e <;> subst e <;> decide
  have en : (nI n).toInt = (n : Int) := nI_toInt (by omega)
  unfold vX10_isWithin
  by_cases q : x < 0
  · rw [if_pos q, if_pos q]
  · rw [if_neg q, if_neg q]
    by_cases q2 : nI n ≤ x
    · rw [if_pos q2, if_pos (by rw [Int32.lt_iff_toInt_lt, e]; rw [Int32.le_iff_toInt_le, en] at q2; omega)]
    · have q3 : ¬ (nI n - 1) < x := by rw [Int32.lt_iff_toInt_lt, e]; rw [Int32.le_iff_toInt_le, en] at q2; omega
      have q4 : ¬ 5 ≤ x := by rw [Int32.le_iff_toInt_le, show (5 : Int32).toInt = 5 from rfl]; rw [Int32.le_iff_toInt_le, en] at q2; omega
      rw [if_neg q2, if_neg q3, if_neg q4]
theorem has_x {w : mH} {a : Nat} {A : Nat → Int32} {x : Int32} (h : tRep w a A) : vX5_has w a x = 0 ↔ vX10_isWithin x 0 (A 29 - 1) = 0 := by
  obtain ⟨n, h5, e1, e2, _⟩ := h
  unfold vX5_has
  rw [e1, e2]
  exact has_w n h5
theorem iw_1 {x y : Int32} : ∀ n, n ≤ 5 → y = nI n - 1 → ¬ vX10_isWithin x 0 y = 0 → ∃ i, i < n ∧ x = nI i := by
  intro n hn hy h
  subst hy
  obtain ⟨h1, h2⟩ := iw_n h
  have e : (nI n - 1).toInt = (n : Int) - 1 := by
    have hc : n = 0 ∨ n = 1 ∨ n = 2 ∨ n = 3 ∨ n = 4 ∨ n = 5 := by omega
    rcases hc with e | e | e | e | e | e <;> subst e <;> decide
  rw [Int32.le_iff_toInt_le, show (0 : Int32).toInt = 0 from rfl] at h1
  rw [Int32.le_iff_toInt_le, e] at h2
  refine ⟨x.toInt.toNat, by omega, ?_⟩
  apply Int32.toInt_inj.mp
  rw [nI_toInt (by omega)]; omega
theorem fo_z {w : mH} {a : Nat} {x : Int32} (z : zBen w a) : zFnd w (vX10_foundBy x (a + 190) (a + 192)) := by
  unfold vX10_foundBy
  by_cases q : x = 0
  · rw [if_pos q]; exact z.2.2.2.2.2.2.2.2.2.2.2.2.2.2.2.2.2.2.2.1
  · rw [if_neg q]; exact z.2.2.2.2.2.2.2.2.2.2.2.2.2.2.2.2.2.2.2.2.1
theorem wi_7 {x : Int32} (h0 : ¬ x = 0) (h1 : ¬ x = 1) (h2 : ¬ x = 2) (h3 : ¬ x = 3) (h4 : ¬ x = 4) (h5 : ¬ x = 5) (h6 : ¬ x = 6) (h7 : ¬ x = 7) : vX10_isWithin x 0 7 = 0 := by
  by_cases q : vX10_isWithin x 0 7 = 0
  · exact q
  · obtain ⟨i, hi, e⟩ := iw_N (n := 7) (by decide) rfl q
    have hc : i = 0 ∨ i = 1 ∨ i = 2 ∨ i = 3 ∨ i = 4 ∨ i = 5 ∨ i = 6 ∨ i = 7 := by omega
    rcases hc with r | r | r | r | r | r | r | r <;> subst r
    · exact absurd e h0
    · exact absurd e h1
    · exact absurd e h2
    · exact absurd e h3
    · exact absurd e h4
    · exact absurd e h5
    · exact absurd e h6
    · exact absurd e h7
def vCmp (E F : Nat → Int32) (k : Nat) (x : Int32) : Int32 := if x = 0 then fDif E F k else if x = 1 then fFst E F 0 k else fLes E F k
def vCnt (w : mH) (a : Nat) (A : Nat → Int32) (x : Int32) : Int32 := if x = 0 then A 40 else if x = 1 then A 65 else if x = 2 then A 29 else if x = 3 then trI A else if x = 4 then aLen A else if x = 5 then hfi w (a + 139) 1 else if x = 6 then hfi w (a + 35) 2 else hfi w (a + 158) 6
def wi01 (x lo hi : Int32) : Int32 := if vX10_isWithin x lo hi = 0 then 1 else 0
abbrev mX10_setting : mM := (yX10_setting, cX10_setting, 2, (some .int), [])
set_option maxHeartbeats 4000000 in
set_option maxRecDepth 100000 in
theorem gX10_setting_0 {G : mG} {w : mH} {Φ : mF} {a0 : Nat} {x1 : Int32} {a0_0 a0_0_0 n_a0_0_0 : Nat} (h1 : hk w a0 = (10, 0)) (h2 : hfr w a0 0 = some a0_0) (h3 : hk w a0_0 = (3, 0)) (h4 : hfr w a0_0 0 = some a0_0_0) (h5 : hk w a0_0_0 = (16, n_a0_0_0)) (s1 : (¬ ((vX10_isWithin x1 0 14) = 0)) → vp_in x1 n_a0_0_0) (k1 : (¬ ((vX10_isWithin x1 0 14) = 0)) → Φ (.inl (some (.int (hai w a0_0_0 x1.toNatClampNeg)))) w) (k2 : ((vX10_isWithin x1 0 14) = 0) → ∀ n, hN w ≤ n → Φ (.inr "java/lang/IndexOutOfBoundsException") (snn w n)) : mW G mX10_setting 9 1 6 0 [(0, .ref a0), (1, .int x1)] [] w Φ := by
  refine mW_iload_n (j := 1) dX10_setting_0 rfl rfl ?_
  refine mW_iconst (v := 0) dX10_setting_1 (by decide) ?_
  refine mW_bipush (v := 14) dX10_setting_2 (by decide) ?_
  refine mW_callSe (As := [.int x1, .int 0, .int 14]) (rest := []) (kc2 := 1) (ks2 := 6) dX10_setting_4 l_X10_78 rfl (qX10_isWithin (w := w) (x0 := x1) (x1 := 0) (x2 := 14)) (Nat.le_of_ble_eq_true rfl) (by decide) rfl rfl ?_
  refine mW_if_ne (tgt := 20) dX10_setting_7 (by decide) (fun c1 => ?_) (fun c1 => ?_)
  · refine mW_aload_n (j := 0) dX10_setting_20 rfl rfl ?_
    refine mW_getR dX10_setting_21 f_X10_12 h1 rfl h2 ?_
    refine mW_getR dX10_setting_24 f_X10_105 h3 rfl h4 ?_
    refine mW_iload_n (j := 1) dX10_setting_27 rfl rfl ?_
    refine mW_ialdJ dX10_setting_28 h5 (s1 c1) rfl ?_
    exact mW_iret dX10_setting_29 rfl (k1 c1)
  · exact mW_thr (text := "no such setting") (names := ["java/lang/RuntimeException", "java/lang/Exception"]) dX10_setting_10 dX10_setting_13 dX10_setting_14 dX10_setting_16 dX10_setting_19 th_82_86 (by decide +kernel) rfl (Nat.le_of_ble_eq_true rfl) (by decide) (by decide) (by decide) (k2 c1)
theorem tX10_setting {G : mG} {w : mH} {a0 : Nat} {x1 : Int32} {A : Nat → Int32} (z : zBen w a0) (hS : sRep w (a0 + 1) A) : mC G mX10_setting 9 1 6 [.ref a0, .int x1] w (tpO "java/lang/IndexOutOfBoundsException" "" "" (wi01 x1 0 14) (.int (A x1.toNatClampNeg)) (fun u => u = w) (fun u => u = w)) := by
  refine mC_of (by decide +kernel) rfl (Nat.le_of_ble_eq_true rfl) rfl ?_
  refine gX10_setting_0 (a0_0 := a0 + 1) (a0_0_0 := a0 + 2) z.1 z.2.1 z.2.2.2.2.2.2.2.2.2.2.2.1.1 z.2.2.2.2.2.2.2.2.2.2.2.1.2.1 z.2.2.2.2.2.2.2.2.2.2.2.1.2.2.2.2.2.2.1 (by intro c1; obtain ⟨s, hs, hx⟩ := iw_N (n := 14) (by decide) rfl c1; rw [hx]; exact m_vp (by omega) (by decide)) ?_ ?_
  · intro c1
    obtain ⟨s, hs, hx⟩ := iw_N (n := 14) (by decide) rfl c1
    have cl : x1.toNatClampNeg = s := by rw [hx]; exact m_cl (by omega)
    rw [cl]
    exact tp_okv (by unfold wi01; rw [if_neg c1]) (by rw [hS.1 s (by omega)]) rfl
  · intro c1
    exact tp_1 (by unfold wi01; rw [if_pos c1]) rfl
abbrev mX10_point : mM := (yX10_point, cX10_point, 3, (some .int), [])
theorem u156 : (Cond.fieldLink "LineFollowerBench" 156 "LineFollowerBench$Table" "places" "[I" : Cond) ∈ mTs := mTs_in 156 (by decide +kernel) (by decide +kernel)
theorem f_X10_156 : mFld "LineFollowerBench" 156 5 0 := ⟨RX5, TX5, 3, "LineFollowerBench$Table", rfl, by decide, in_X5, u156, Or.inl rfl, by decide⟩
set_option maxHeartbeats 4000000 in
set_option maxRecDepth 100000 in
theorem gX10_point_0 {G : mG} {w : mH} {Φ : mF} {a0 : Nat} {x1 x2 : Int32} {a0_0 a0_0_3 a0_0_3_1 n_a0_0_3_1 a0_0_3_0 n_a0_0_3_0 : Nat} (h1 : hk w a0 = (10, 0)) (h2 : hfr w a0 0 = some a0_0) (h3 : hk w a0_0 = (3, 0)) (h4 : hfr w a0_0 3 = some a0_0_3) (h5 : hk w a0_0_3 = (5, 0)) (h6 : hfr w a0_0_3 1 = some a0_0_3_1) (h7 : hk w a0_0_3_1 = (16, n_a0_0_3_1)) (s1 : (¬ ((vX5_has w a0_0_3 x1) = 0)) → (x2 = 0) → (¬ (x2 = 0)) → vp_in x1 n_a0_0_3_1) (h8 : hfr w a0_0_3 0 = some a0_0_3_0) (h9 : hk w a0_0_3_0 = (16, n_a0_0_3_0)) (s2 : (¬ ((vX5_has w a0_0_3 x1) = 0)) → (x2 = 0) → (x2 = 0) → vp_in x1 n_a0_0_3_0) (s3 : (¬ ((vX5_has w a0_0_3 x1) = 0)) → (¬ (x2 = 0)) → (x2 = 1) → (¬ (x2 = 0)) → vp_in x1 n_a0_0_3_1) (s4 : (¬ ((vX5_has w a0_0_3 x1) = 0)) → (¬ (x2 = 0)) → (x2 = 1) → (x2 = 0) → vp_in x1 n_a0_0_3_0) (k1 : (¬ ((vX5_has w a0_0_3 x1) = 0)) → (x2 = 0) → (¬ (x2 = 0)) → Φ (.inl (some (.int (hai w a0_0_3_1 x1.toNatClampNeg)))) w) (k2 : (¬ ((vX5_has w a0_0_3 x1) = 0)) → (x2 = 0) → (x2 = 0) → Φ (.inl (some (.int (hai w a0_0_3_0 x1.toNatClampNeg)))) w) (k3 : (¬ ((vX5_has w a0_0_3 x1) = 0)) → (¬ (x2 = 0)) → (x2 = 1) → (¬ (x2 = 0)) → Φ (.inl (some (.int (hai w a0_0_3_1 x1.toNatClampNeg)))) w) (k4 : (¬ ((vX5_has w a0_0_3 x1) = 0)) → (¬ (x2 = 0)) → (x2 = 1) → (x2 = 0) → Φ (.inl (some (.int (hai w a0_0_3_0 x1.toNatClampNeg)))) w) (k5 : (¬ ((vX5_has w a0_0_3 x1) = 0)) → (¬ (x2 = 0)) → (¬ (x2 = 1)) → ∀ n, hN w ≤ n → Φ (.inr "java/lang/IllegalArgumentException") (snn w n)) (k6 : ((vX5_has w a0_0_3 x1) = 0) → ∀ n, hN w ≤ n → Φ (.inr "java/util/NoSuchElementException") (snn w n)) : mW G mX10_point 9 1 6 0 [(0, .ref a0), (1, .int x1), (2, .int x2)] [] w Φ := by
  refine mW_aload_n (j := 0) dX10_point_0 rfl rfl ?_
  refine mW_getR dX10_point_1 f_X10_12 h1 rfl h2 ?_
  refine mW_getR dX10_point_4 f_X10_110 h3 rfl h4 ?_
  refine mW_iload_n (j := 1) dX10_point_7 rfl rfl ?_
  refine mW_callVe (As := [.int x1]) (rest := []) (kc2 := 1) (ks2 := 6) dX10_point_8 l_X10_137 rfl h5 rfl (by decide) (qX5_has (w := w) (a0 := a0_0_3) (x1 := x1) h5) (Nat.le_of_ble_eq_true rfl) (by decide) rfl rfl ?_
  refine mW_if_ne (tgt := 24) dX10_point_11 (by decide) (fun c1 => ?_) (fun c1 => ?_)
  · refine mW_iload_n (j := 2) dX10_point_24 rfl rfl ?_
    refine mW_if_eq (tgt := 43) dX10_point_25 (by decide) (fun c2 => ?_) (fun c2 => ?_)
    · refine mW_iload_n (j := 2) dX10_point_43 rfl rfl ?_
      refine mW_if_ne (tgt := 62) dX10_point_44 (by decide) (fun c3 => ?_) (fun c3 => ?_)
      · refine mW_aload_n (j := 0) dX10_point_62 rfl rfl ?_
        refine mW_getR dX10_point_63 f_X10_12 h1 rfl h2 ?_
        refine mW_getR dX10_point_66 f_X10_110 h3 rfl h4 ?_
        refine mW_getR dX10_point_69 f_X10_145 h5 rfl h6 ?_
        refine mW_iload_n (j := 1) dX10_point_72 rfl rfl ?_
        refine mW_ialdJ dX10_point_73 h7 (s1 c1 c2 c3) rfl ?_
        exact mW_iret dX10_point_74 rfl (k1 c1 c2 c3)
      · refine mW_aload_n (j := 0) dX10_point_47 rfl rfl ?_
        refine mW_getR dX10_point_48 f_X10_12 h1 rfl h2 ?_
        refine mW_getR dX10_point_51 f_X10_110 h3 rfl h4 ?_
        refine mW_getR dX10_point_54 f_X10_156 h5 rfl h8 ?_
        refine mW_iload_n (j := 1) dX10_point_57 rfl rfl ?_
        refine mW_ialdJ dX10_point_58 h9 (s2 c1 c2 c3) rfl ?_
        refine mW_goto (tgt := 74) dX10_point_59 (by decide) ?_
        exact mW_iret dX10_point_74 rfl (k2 c1 c2 c3)
    · refine mW_iload_n (j := 2) dX10_point_28 rfl rfl ?_
      refine mW_iconst (v := 1) dX10_point_29 (by decide) ?_
      refine mW_icmp_eq (tgt := 43) dX10_point_30 (by decide) (fun c4 => ?_) (fun c4 => ?_)
      · refine mW_iload_n (j := 2) dX10_point_43 rfl rfl ?_
        refine mW_if_ne (tgt := 62) dX10_point_44 (by decide) (fun c5 => ?_) (fun c5 => ?_)
        · refine mW_aload_n (j := 0) dX10_point_62 rfl rfl ?_
          refine mW_getR dX10_point_63 f_X10_12 h1 rfl h2 ?_
          refine mW_getR dX10_point_66 f_X10_110 h3 rfl h4 ?_
          refine mW_getR dX10_point_69 f_X10_145 h5 rfl h6 ?_
          refine mW_iload_n (j := 1) dX10_point_72 rfl rfl ?_
          refine mW_ialdJ dX10_point_73 h7 (s3 c1 c2 c4 c5) rfl ?_
          exact mW_iret dX10_point_74 rfl (k3 c1 c2 c4 c5)
        · refine mW_aload_n (j := 0) dX10_point_47 rfl rfl ?_
          refine mW_getR dX10_point_48 f_X10_12 h1 rfl h2 ?_
          refine mW_getR dX10_point_51 f_X10_110 h3 rfl h4 ?_
          refine mW_getR dX10_point_54 f_X10_156 h5 rfl h8 ?_
          refine mW_iload_n (j := 1) dX10_point_57 rfl rfl ?_
          refine mW_ialdJ dX10_point_58 h9 (s4 c1 c2 c4 c5) rfl ?_
          refine mW_goto (tgt := 74) dX10_point_59 (by decide) ?_
          exact mW_iret dX10_point_74 rfl (k4 c1 c2 c4 c5)
      · exact mW_thr (text := "no such part of a point") (names := ["java/lang/RuntimeException", "java/lang/Exception"]) dX10_point_33 dX10_point_36 dX10_point_37 dX10_point_39 dX10_point_42 th_96_100 (by decide +kernel) rfl (Nat.le_of_ble_eq_true rfl) (by decide) (by decide) (by decide) (k5 c1 c2 c4)
  · exact mW_thrX (text := "no such point") (names := ["java/lang/RuntimeException", "java/lang/Exception"]) dX10_point_14 dX10_point_17 dX10_point_18 dX10_point_20 dX10_point_23 th_140_144 (by decide +kernel) rfl (Nat.le_of_ble_eq_true rfl) (by decide) (by decide) (by decide) (k6 c1)
theorem wi_1 {x : Int32} (h0 : ¬ x = 0) (h1 : ¬ x = 1) : vX10_isWithin x 0 1 = 0 := by
  by_cases q : vX10_isWithin x 0 1 = 0
  · exact q
  · obtain ⟨i, hi, e⟩ := iw_N (n := 1) (by decide) rfl q
    have hc : i = 0 ∨ i = 1 := by omega
    rcases hc with r | r <;> subst r
    · exact absurd e h0
    · exact absurd e h1
theorem tX10_point {G : mG} {w : mH} {a0 : Nat} {x1 : Int32} {x2 : Int32} {A : Nat → Int32} (z : zBen w a0) (hS : sRep w (a0 + 1) A) : mC G mX10_point 9 1 6 [.ref a0, .int x1, .int x2] w (tpO "java/util/NoSuchElementException" "java/lang/IllegalArgumentException" "" (if vX10_isWithin x1 0 (A 29 - 1) = 0 then 1 else if vX10_isWithin x2 0 1 = 0 then 2 else 0) (.int (if x2 = 0 then rX A x1.toNatClampNeg else rY A x1.toNatClampNeg)) (fun u => u = w) (fun u => u = w)) := by
  refine mC_of (by decide +kernel) rfl (Nat.le_of_ble_eq_true rfl) rfl ?_
  refine gX10_point_0 (a0_0 := a0 + 1) (a0_0_3 := a0 + 8) (a0_0_3_1 := a0 + 10) (a0_0_3_0 := a0 + 9) z.1 z.2.1 z.2.2.2.2.2.2.2.2.2.2.2.1.1 z.2.2.2.2.2.2.2.2.2.2.2.1.2.2.2.2.1 z.2.2.2.2.2.2.2.2.2.2.2.1.2.2.2.2.2.2.2.2.2.1.1 z.2.2.2.2.2.2.2.2.2.2.2.1.2.2.2.2.2.2.2.2.2.1.2.2.1 z.2.2.2.2.2.2.2.2.2.2.2.1.2.2.2.2.2.2.2.2.2.1.2.2.2.2 (by intro c1 c2 c3; have h5 := (tRep_p (show tRep w (a0 + 8) A from hS.2.2.2.1)).2; obtain ⟨s, hs, hx⟩ := iw_1 _ (tRep_p (show tRep w (a0 + 8) A from hS.2.2.2.1)).2 (congrArg (· - 1) (tRep_p (show tRep w (a0 + 8) A from hS.2.2.2.1)).1) (fun q => c1 ((has_x (show tRep w (a0 + 8) A from hS.2.2.2.1)).mpr q)); rw [hx]; exact m_vp (by omega) (by decide)) z.2.2.2.2.2.2.2.2.2.2.2.1.2.2.2.2.2.2.2.2.2.1.2.1 z.2.2.2.2.2.2.2.2.2.2.2.1.2.2.2.2.2.2.2.2.2.1.2.2.2.1 (by intro c1 c2 c3; have h5 := (tRep_p (show tRep w (a0 + 8) A from hS.2.2.2.1)).2; obtain ⟨s, hs, hx⟩ := iw_1 _ (tRep_p (show tRep w (a0 + 8) A from hS.2.2.2.1)).2 (congrArg (· - 1) (tRep_p (show tRep w (a0 + 8) A from hS.2.2.2.1)).1) (fun q => c1 ((has_x (show tRep w (a0 + 8) A from hS.2.2.2.1)).mpr q)); rw [hx]; exact m_vp (by omega) (by decide)) (by intro c1 c2 c4 c5; have h5 := (tRep_p (show tRep w (a0 + 8) A from hS.2.2.2.1)).2; obtain ⟨s, hs, hx⟩ := iw_1 _ (tRep_p (show tRep w (a0 + 8) A from hS.2.2.2.1)).2 (congrArg (· - 1) (tRep_p (show tRep w (a0 + 8) A from hS.2.2.2.1)).1) (fun q => c1 ((has_x (show tRep w (a0 + 8) A from hS.2.2.2.1)).mpr q)); rw [hx]; exact m_vp (by omega) (by decide)) (by intro c1 c2 c4 c5; have h5 := (tRep_p (show tRep w (a0 + 8) A from hS.2.2.2.1)).2; obtain ⟨s, hs, hx⟩ := iw_1 _ (tRep_p (show tRep w (a0 + 8) A from hS.2.2.2.1)).2 (congrArg (· - 1) (tRep_p (show tRep w (a0 + 8) A from hS.2.2.2.1)).1) (fun q => c1 ((has_x (show tRep w (a0 + 8) A from hS.2.2.2.1)).mpr q)); rw [hx]; exact m_vp (by omega) (by decide)) ?_ ?_ ?_ ?_ ?_ ?_
  · intro c1 c2 c3
    exact absurd c2 c3
  · intro c1 c2 c3
    have hp := tRep_p (show tRep w (a0 + 8) A from hS.2.2.2.1)
    have c1' : ¬ vX10_isWithin x1 0 (A 29 - 1) = 0 := fun q => c1 ((has_x (show tRep w (a0 + 8) A from hS.2.2.2.1)).mpr q)
    obtain ⟨s, hs, hx⟩ := iw_1 _ (tRep_p (show tRep w (a0 + 8) A from hS.2.2.2.1)).2 (congrArg (· - 1) (tRep_p (show tRep w (a0 + 8) A from hS.2.2.2.1)).1) (fun q => c1 ((has_x (show tRep w (a0 + 8) A from hS.2.2.2.1)).mpr q))
    have cl : x1.toNatClampNeg = s := by rw [hx]; exact m_cl (by omega)
    obtain ⟨n, _, e1, _, e3⟩ := hS.2.2.2.1
    have en : n = nPt A := by unfold nPt; rw [e1]; exact (m_cl (by omega)).symm
    have e4 := e3 s (by omega)
    rw [cl]
    exact tp_okv (by rw [if_neg c1', if_neg (by rw [c2]; decide)]) (by rw [if_pos c2]; show Value.int (hai w (a0 + 1 + 7 + 1) _) = _; rw [e4.1]; rfl) rfl
  · intro c1 c2 c4 c5
    have hp := tRep_p (show tRep w (a0 + 8) A from hS.2.2.2.1)
    have c1' : ¬ vX10_isWithin x1 0 (A 29 - 1) = 0 := fun q => c1 ((has_x (show tRep w (a0 + 8) A from hS.2.2.2.1)).mpr q)
    obtain ⟨s, hs, hx⟩ := iw_1 _ (tRep_p (show tRep w (a0 + 8) A from hS.2.2.2.1)).2 (congrArg (· - 1) (tRep_p (show tRep w (a0 + 8) A from hS.2.2.2.1)).1) (fun q => c1 ((has_x (show tRep w (a0 + 8) A from hS.2.2.2.1)).mpr q))
    have cl : x1.toNatClampNeg = s := by rw [hx]; exact m_cl (by omega)
    obtain ⟨n, _, e1, _, e3⟩ := hS.2.2.2.1
    have en : n = nPt A := by unfold nPt; rw [e1]; exact (m_cl (by omega)).symm
    have e4 := e3 s (by omega)
    rw [cl]
    exact tp_okv (by rw [if_neg c1', if_neg (by rw [c4]; decide)]) (by rw [if_neg c2]; show Value.int (hai w (a0 + 1 + 7 + 2) _) = _; rw [e4.2]; rfl) rfl
  · intro c1 c2 c4 c5
    exact absurd c5 c2
  · intro c1 c2 c4
    exact tp_2 (by rw [if_neg (fun q => c1 ((has_x (show tRep w (a0 + 8) A from hS.2.2.2.1)).mpr q)), if_pos (wi_1 c2 c4)]) rfl
  · intro c1
    exact tp_1 (by rw [if_pos ((has_x (show tRep w (a0 + 8) A from hS.2.2.2.1)).mp c1)]) rfl
abbrev mX10_table : mM := (yX10_table, cX10_table, 2, (some .int), [])
theorem u917 : (Cond.methodLink "LineFollowerBench" 161 ⟨"LineFollowerBench$Table", "rawOutput", "(I)I"⟩ : Cond) ∈ mTs := mTs_in 917 (by decide +kernel) (by decide +kernel)
theorem l_X10_161 : mLinkV "LineFollowerBench" 161 1 mX5_rawOutput := ⟨⟨by decide, by decide, by decide +kernel⟩, co_X5_rawOutput, u917, u567, u568⟩
set_option maxHeartbeats 4000000 in
set_option maxRecDepth 100000 in
theorem gX10_table_0 {G : mG} {w : mH} {Φ : mF} {a0 : Nat} {x1 : Int32} {A : Nat → Int32} {a0_0 a0_0_3 : Nat} (h1 : hk w a0 = (10, 0)) (h2 : hfr w a0 0 = some a0_0) (h3 : hk w a0_0 = (3, 0)) (h4 : hfr w a0_0 3 = some a0_0_3) (h5 : hk w a0_0_3 = (5, 0)) (h6 : zTab w a0_0_3) (s1 : (¬ ((vX10_isWithin x1 (-10000) 10000) = 0)) → tRep w a0_0_3 A) (k1 : (¬ ((vX10_isWithin x1 (-10000) 10000) = 0)) → Φ (.inl (some (.int (aTab A x1)))) w) (k2 : ((vX10_isWithin x1 (-10000) 10000) = 0) → ∀ n, hN w ≤ n → Φ (.inr "java/lang/IllegalArgumentException") (snn w n)) : mW G mX10_table 9 1 6 0 [(0, .ref a0), (1, .int x1)] [] w Φ := by
  refine mW_iload_n (j := 1) dX10_table_0 rfl rfl ?_
  refine mW_sipush (v := (-10000)) dX10_table_1 (by decide) ?_
  refine mW_sipush (v := 10000) dX10_table_4 (by decide) ?_
  refine mW_callSe (As := [.int x1, .int (-10000), .int 10000]) (rest := []) (kc2 := 1) (ks2 := 6) dX10_table_7 l_X10_78 rfl (qX10_isWithin (w := w) (x0 := x1) (x1 := (-10000)) (x2 := 10000)) (Nat.le_of_ble_eq_true rfl) (by decide) rfl rfl ?_
  refine mW_if_ne (tgt := 23) dX10_table_10 (by decide) (fun c1 => ?_) (fun c1 => ?_)
  · refine mW_aload_n (j := 0) dX10_table_23 rfl rfl ?_
    refine mW_getR dX10_table_24 f_X10_12 h1 rfl h2 ?_
    refine mW_getR dX10_table_27 f_X10_110 h3 rfl h4 ?_
    refine mW_iload_n (j := 1) dX10_table_30 rfl rfl ?_
    refine mW_callVe (As := [.int x1]) (rest := []) (kc2 := 1) (ks2 := 6) dX10_table_31 l_X10_161 rfl h5 rfl (by decide) (qX5_rawOutput' (w := w) (a0 := a0_0_3) (x1 := x1) h6 (s1 c1)) (Nat.le_of_ble_eq_true rfl) (by decide) rfl rfl ?_
    exact mW_iret dX10_table_34 rfl (k1 c1)
  · exact mW_thr (text := "the seen value is out of range") (names := ["java/lang/RuntimeException", "java/lang/Exception"]) dX10_table_13 dX10_table_16 dX10_table_17 dX10_table_19 dX10_table_22 th_96_100 (by decide +kernel) rfl (Nat.le_of_ble_eq_true rfl) (by decide) (by decide) (by decide) (k2 c1)
theorem tX10_table {G : mG} {w : mH} {a0 : Nat} {x1 : Int32} {A : Nat → Int32} (z : zBen w a0) (hS : sRep w (a0 + 1) A) : mC G mX10_table 9 1 6 [.ref a0, .int x1] w (tpO "java/lang/IllegalArgumentException" "" "" (wi01 x1 (-10000) 10000) (.int (aTab A x1)) (fun u => u = w) (fun u => u = w)) := by
  refine mC_of (by decide +kernel) rfl (Nat.le_of_ble_eq_true rfl) rfl ?_
  refine gX10_table_0 (A := A) (a0_0 := a0 + 1) (a0_0_3 := a0 + 8) z.1 z.2.1 z.2.2.2.2.2.2.2.2.2.2.2.1.1 z.2.2.2.2.2.2.2.2.2.2.2.1.2.2.2.2.1 z.2.2.2.2.2.2.2.2.2.2.2.1.2.2.2.2.2.2.2.2.2.1.1 z.2.2.2.2.2.2.2.2.2.2.2.1.2.2.2.2.2.2.2.2.2.1 (by intro c1; exact hS.2.2.2.1) ?_ ?_
  · intro c1
    exact tp_ok (by unfold wi01; rw [if_neg c1]) rfl
  · intro c1
    exact tp_1 (by unfold wi01; rw [if_pos c1]) rfl
abbrev mX10_curvature : mM := (yX10_curvature, cX10_curvature, 2, (some .int), [])
theorem u1350 : (Cond.methodLink "LineFollowerBench" 255 ⟨"LineFollowerBench$Track", "curvatureAt", "(I)I"⟩ : Cond) ∈ mTs := mTs_in 1350 (by decide +kernel) (by decide +kernel)
theorem l_X10_255 : mLinkV "LineFollowerBench" 255 1 mX7_curvatureAt := ⟨⟨by decide, by decide, by decide +kernel⟩, co_X7_curvatureAt, u1350, u511, u512⟩
set_option maxHeartbeats 4000000 in
set_option maxRecDepth 100000 in
theorem gX10_curvature_0 {G : mG} {w : mH} {Φ : mF} {a0 : Nat} {x1 : Int32} {A : Nat → Int32} {a0_0 a0_0_4 : Nat} (h1 : hk w a0 = (10, 0)) (h2 : hfr w a0 0 = some a0_0) (h3 : hk w a0_0 = (3, 0)) (h4 : hfr w a0_0 4 = some a0_0_4) (h5 : hk w a0_0_4 = (7, 0)) (h6 : zTrk w a0_0_4) (s1 : (¬ ((vX10_isWithin x1 0 199) = 0)) → kRep w a0_0_4 A) (k1 : (¬ ((vX10_isWithin x1 0 199) = 0)) → Φ (.inl (some (.int (aCur A x1)))) w) (k2 : ((vX10_isWithin x1 0 199) = 0) → ∀ n, hN w ≤ n → Φ (.inr "java/lang/IndexOutOfBoundsException") (snn w n)) : mW G mX10_curvature 9 1 6 0 [(0, .ref a0), (1, .int x1)] [] w Φ := by
  refine mW_iload_n (j := 1) dX10_curvature_0 rfl rfl ?_
  refine mW_iconst (v := 0) dX10_curvature_1 (by decide) ?_
  refine mW_sipush (v := 199) dX10_curvature_2 (by decide) ?_
  refine mW_callSe (As := [.int x1, .int 0, .int 199]) (rest := []) (kc2 := 1) (ks2 := 6) dX10_curvature_5 l_X10_78 rfl (qX10_isWithin (w := w) (x0 := x1) (x1 := 0) (x2 := 199)) (Nat.le_of_ble_eq_true rfl) (by decide) rfl rfl ?_
  refine mW_if_ne (tgt := 21) dX10_curvature_8 (by decide) (fun c1 => ?_) (fun c1 => ?_)
  · refine mW_aload_n (j := 0) dX10_curvature_21 rfl rfl ?_
    refine mW_getR dX10_curvature_22 f_X10_12 h1 rfl h2 ?_
    refine mW_getR dX10_curvature_25 f_X10_218 h3 rfl h4 ?_
    refine mW_iload_n (j := 1) dX10_curvature_28 rfl rfl ?_
    refine mW_callVe (As := [.int x1]) (rest := []) (kc2 := 1) (ks2 := 6) dX10_curvature_29 l_X10_255 rfl h5 rfl (by decide) (qX7_curvatureAt' (w := w) (a0 := a0_0_4) (x1 := x1) h6 (s1 c1)) (Nat.le_of_ble_eq_true rfl) (by decide) rfl rfl ?_
    exact mW_iret dX10_curvature_32 rfl (k1 c1)
  · exact mW_thr (text := "no such step") (names := ["java/lang/RuntimeException", "java/lang/Exception"]) dX10_curvature_11 dX10_curvature_14 dX10_curvature_15 dX10_curvature_17 dX10_curvature_20 th_82_86 (by decide +kernel) rfl (Nat.le_of_ble_eq_true rfl) (by decide) (by decide) (by decide) (k2 c1)
theorem tX10_curvature {G : mG} {w : mH} {a0 : Nat} {x1 : Int32} {A : Nat → Int32} (z : zBen w a0) (hS : sRep w (a0 + 1) A) : mC G mX10_curvature 9 1 6 [.ref a0, .int x1] w (tpO "java/lang/IndexOutOfBoundsException" "" "" (wi01 x1 0 199) (.int (aCur A x1)) (fun u => u = w) (fun u => u = w)) := by
  refine mC_of (by decide +kernel) rfl (Nat.le_of_ble_eq_true rfl) rfl ?_
  refine gX10_curvature_0 (A := A) (a0_0 := a0 + 1) (a0_0_4 := a0 + 11) z.1 z.2.1 z.2.2.2.2.2.2.2.2.2.2.2.1.1 z.2.2.2.2.2.2.2.2.2.2.2.1.2.2.2.2.2.1 z.2.2.2.2.2.2.2.2.2.2.2.1.2.2.2.2.2.2.2.2.2.2.1 z.2.2.2.2.2.2.2.2.2.2.2.1.2.2.2.2.2.2.2.2.2.2 (by intro c1; exact hS.2.2.2.2) ?_ ?_
  · intro c1
    exact tp_ok (by unfold wi01; rw [if_neg c1]) rfl
  · intro c1
    exact tp_1 (by unfold wi01; rw [if_pos c1]) rfl
abbrev mX10_push : mM := (yX10_push, cX10_push, 2, (some .int), [])
theorem u1358 : (Cond.methodLink "LineFollowerBench" 258 ⟨"LineFollowerBench$Track", "pushAt", "(I)I"⟩ : Cond) ∈ mTs := mTs_in 1358 (by decide +kernel) (by decide +kernel)
theorem l_X10_258 : mLinkV "LineFollowerBench" 258 1 mX7_pushAt := ⟨⟨by decide, by decide, by decide +kernel⟩, co_X7_pushAt, u1358, u519, u520⟩
set_option maxHeartbeats 4000000 in
set_option maxRecDepth 100000 in
theorem gX10_push_0 {G : mG} {w : mH} {Φ : mF} {a0 : Nat} {x1 : Int32} {A : Nat → Int32} {a0_0 a0_0_4 : Nat} (h1 : hk w a0 = (10, 0)) (h2 : hfr w a0 0 = some a0_0) (h3 : hk w a0_0 = (3, 0)) (h4 : hfr w a0_0 4 = some a0_0_4) (h5 : hk w a0_0_4 = (7, 0)) (h6 : zTrk w a0_0_4) (s1 : (¬ ((vX10_isWithin x1 0 199) = 0)) → kRep w a0_0_4 A) (k1 : (¬ ((vX10_isWithin x1 0 199) = 0)) → Φ (.inl (some (.int (aPus A x1)))) w) (k2 : ((vX10_isWithin x1 0 199) = 0) → ∀ n, hN w ≤ n → Φ (.inr "java/lang/IndexOutOfBoundsException") (snn w n)) : mW G mX10_push 9 1 6 0 [(0, .ref a0), (1, .int x1)] [] w Φ := by
  refine mW_iload_n (j := 1) dX10_push_0 rfl rfl ?_
  refine mW_iconst (v := 0) dX10_push_1 (by decide) ?_
  refine mW_sipush (v := 199) dX10_push_2 (by decide) ?_
  refine mW_callSe (As := [.int x1, .int 0, .int 199]) (rest := []) (kc2 := 1) (ks2 := 6) dX10_push_5 l_X10_78 rfl (qX10_isWithin (w := w) (x0 := x1) (x1 := 0) (x2 := 199)) (Nat.le_of_ble_eq_true rfl) (by decide) rfl rfl ?_
  refine mW_if_ne (tgt := 21) dX10_push_8 (by decide) (fun c1 => ?_) (fun c1 => ?_)
  · refine mW_aload_n (j := 0) dX10_push_21 rfl rfl ?_
    refine mW_getR dX10_push_22 f_X10_12 h1 rfl h2 ?_
    refine mW_getR dX10_push_25 f_X10_218 h3 rfl h4 ?_
    refine mW_iload_n (j := 1) dX10_push_28 rfl rfl ?_
    refine mW_callVe (As := [.int x1]) (rest := []) (kc2 := 1) (ks2 := 6) dX10_push_29 l_X10_258 rfl h5 rfl (by decide) (qX7_pushAt' (w := w) (a0 := a0_0_4) (x1 := x1) h6 (s1 c1)) (Nat.le_of_ble_eq_true rfl) (by decide) rfl rfl ?_
    exact mW_iret dX10_push_32 rfl (k1 c1)
  · exact mW_thr (text := "no such step") (names := ["java/lang/RuntimeException", "java/lang/Exception"]) dX10_push_11 dX10_push_14 dX10_push_15 dX10_push_17 dX10_push_20 th_82_86 (by decide +kernel) rfl (Nat.le_of_ble_eq_true rfl) (by decide) (by decide) (by decide) (k2 c1)
theorem tX10_push {G : mG} {w : mH} {a0 : Nat} {x1 : Int32} {A : Nat → Int32} (z : zBen w a0) (hS : sRep w (a0 + 1) A) : mC G mX10_push 9 1 6 [.ref a0, .int x1] w (tpO "java/lang/IndexOutOfBoundsException" "" "" (wi01 x1 0 199) (.int (aPus A x1)) (fun u => u = w) (fun u => u = w)) := by
  refine mC_of (by decide +kernel) rfl (Nat.le_of_ble_eq_true rfl) rfl ?_
  refine gX10_push_0 (A := A) (a0_0 := a0 + 1) (a0_0_4 := a0 + 11) z.1 z.2.1 z.2.2.2.2.2.2.2.2.2.2.2.1.1 z.2.2.2.2.2.2.2.2.2.2.2.1.2.2.2.2.2.1 z.2.2.2.2.2.2.2.2.2.2.2.1.2.2.2.2.2.2.2.2.2.2.1 z.2.2.2.2.2.2.2.2.2.2.2.1.2.2.2.2.2.2.2.2.2.2 (by intro c1; exact hS.2.2.2.2) ?_ ?_
  · intro c1
    exact tp_ok (by unfold wi01; rw [if_neg c1]) rfl
  · intro c1
    exact tp_1 (by unfold wi01; rw [if_pos c1]) rfl
abbrev mX10_trace : mM := (yX10_trace, cX10_trace, 3, (some .int), [])
theorem u454 : (Cond.fieldLink "LineFollowerBench" 54 "LineFollowerBench" "last" "LLineFollowerBench$Trace;" : Cond) ∈ mTs := mTs_in 454 (by decide +kernel) (by decide +kernel)
theorem f_X10_54 : mFld "LineFollowerBench" 54 10 7 := ⟨RX10, TX10, 12, "LineFollowerBench", rfl, by decide, in_X10, u454, Or.inl rfl, by decide⟩
theorem u1366 : (Cond.methodLink "LineFollowerBench" 271 ⟨"LineFollowerBench$Trace", "isMade", "()Z"⟩ : Cond) ∈ mTs := mTs_in 1366 (by decide +kernel) (by decide +kernel)
theorem l_X10_271 : mLinkV "LineFollowerBench" 271 0 mX6_isMade := ⟨⟨by decide, by decide, by decide +kernel⟩, co_X6_isMade, u1366, u591, u592⟩
theorem u380 : (Cond.fieldLink "LineFollowerBench" 276 "LineFollowerBench$Trace" "steps" "I" : Cond) ∈ mTs := mTs_in 380 (by decide +kernel) (by decide +kernel)
theorem f_X10_276 : mFld "LineFollowerBench" 276 6 6 := ⟨RX6, TX6, 7, "LineFollowerBench$Trace", rfl, by decide, in_X6, u380, Or.inl rfl, by decide⟩
theorem u1372 : (Cond.code ⟨"LineFollowerBench$Trace", "part", "(II)I"⟩ prog_8_method_3_code 3 (some .int) : Cond) ∈ mTs := mTs_in 1372 (by decide +kernel) (by decide +kernel)
theorem co_X6_part : mCode mX6_part := ⟨u1372, u82, by decide⟩
theorem u1369 : (Cond.methodLink "LineFollowerBench" 280 ⟨"LineFollowerBench$Trace", "part", "(II)I"⟩ : Cond) ∈ mTs := mTs_in 1369 (by decide +kernel) (by decide +kernel)
theorem u1370 : (Cond.instanceMethod ⟨"LineFollowerBench$Trace", "part", "(II)I"⟩ : Cond) ∈ mTs := mTs_in 1370 (by decide +kernel) (by decide +kernel)
theorem u1371 : (Cond.selects "LineFollowerBench$Trace" ⟨"LineFollowerBench$Trace", "part", "(II)I"⟩ ⟨"LineFollowerBench$Trace", "part", "(II)I"⟩ : Cond) ∈ mTs := mTs_in 1371 (by decide +kernel) (by decide +kernel)
theorem l_X10_280 : mLinkV "LineFollowerBench" 280 2 mX6_part := ⟨⟨by decide, by decide, by decide +kernel⟩, co_X6_part, u1369, u1370, u1371⟩
set_option maxHeartbeats 4000000 in
set_option maxRecDepth 100000 in
theorem gX10_trace_0 {G : mG} {w : mH} {Φ : mF} {a0 : Nat} {x1 x2 : Int32} {a0_7 a0_7_1 n_a0_7_1 a0_7_2 n_a0_7_2 a0_7_3 n_a0_7_3 a0_7_4 n_a0_7_4 a0_7_5 n_a0_7_5 a0_7_0 n_a0_7_0 : Nat} (h1 : hk w a0 = (10, 0)) (h2 : hfr w a0 7 = some a0_7) (h3 : hk w a0_7 = (6, 0)) (h4 : hfr w a0_7 1 = some a0_7_1) (h5 : hk w a0_7_1 = (16, n_a0_7_1)) (s1 : (¬ ((vX6_isMade w a0_7) = 0)) → (¬ ((vX10_isWithin x1 0 (hfi w a0_7 6)) = 0)) → (¬ ((vX10_isWithin x2 0 5) = 0)) → (¬ (x1 = (hfi w a0_7 6))) → (¬ (x2 = 0)) → (¬ ((vX10_isWithin x1 0 199) = 0)) → (x2 = 1) → vp_in x1 n_a0_7_1) (h6 : hfr w a0_7 2 = some a0_7_2) (h7 : hk w a0_7_2 = (16, n_a0_7_2)) (s2 : (¬ ((vX6_isMade w a0_7) = 0)) → (¬ ((vX10_isWithin x1 0 (hfi w a0_7 6)) = 0)) → (¬ ((vX10_isWithin x2 0 5) = 0)) → (¬ (x1 = (hfi w a0_7 6))) → (¬ (x2 = 0)) → (¬ ((vX10_isWithin x1 0 199) = 0)) → (¬ x2 = 1) → (x2 = 2) → vp_in x1 n_a0_7_2) (h8 : hfr w a0_7 3 = some a0_7_3) (h9 : hk w a0_7_3 = (16, n_a0_7_3)) (s3 : (¬ ((vX6_isMade w a0_7) = 0)) → (¬ ((vX10_isWithin x1 0 (hfi w a0_7 6)) = 0)) → (¬ ((vX10_isWithin x2 0 5) = 0)) → (¬ (x1 = (hfi w a0_7 6))) → (¬ (x2 = 0)) → (¬ ((vX10_isWithin x1 0 199) = 0)) → (¬ x2 = 1) → (¬ x2 = 2) → (x2 = 3) → vp_in x1 n_a0_7_3) (h10 : hfr w a0_7 4 = some a0_7_4) (h11 : hk w a0_7_4 = (16, n_a0_7_4)) (s4 : (¬ ((vX6_isMade w a0_7) = 0)) → (¬ ((vX10_isWithin x1 0 (hfi w a0_7 6)) = 0)) → (¬ ((vX10_isWithin x2 0 5) = 0)) → (¬ (x1 = (hfi w a0_7 6))) → (¬ (x2 = 0)) → (¬ ((vX10_isWithin x1 0 199) = 0)) → (¬ x2 = 1) → (¬ x2 = 2) → (¬ x2 = 3) → (x2 = 4) → vp_in x1 n_a0_7_4) (h12 : hfr w a0_7 5 = some a0_7_5) (h13 : hk w a0_7_5 = (16, n_a0_7_5)) (s5 : (¬ ((vX6_isMade w a0_7) = 0)) → (¬ ((vX10_isWithin x1 0 (hfi w a0_7 6)) = 0)) → (¬ ((vX10_isWithin x2 0 5) = 0)) → (¬ (x1 = (hfi w a0_7 6))) → (¬ (x2 = 0)) → (¬ ((vX10_isWithin x1 0 199) = 0)) → (¬ x2 = 1) → (¬ x2 = 2) → (¬ x2 = 3) → (¬ x2 = 4) → vp_in x1 n_a0_7_5) (h14 : hfr w a0_7 0 = some a0_7_0) (h15 : hk w a0_7_0 = (16, n_a0_7_0)) (s6 : (¬ ((vX6_isMade w a0_7) = 0)) → (¬ ((vX10_isWithin x1 0 (hfi w a0_7 6)) = 0)) → (¬ ((vX10_isWithin x2 0 5) = 0)) → (¬ (x1 = (hfi w a0_7 6))) → (x2 = 0) → (¬ ((vX10_isWithin x1 0 200) = 0)) → vp_in x1 n_a0_7_0) (s7 : (¬ ((vX6_isMade w a0_7) = 0)) → (¬ ((vX10_isWithin x1 0 (hfi w a0_7 6)) = 0)) → (¬ ((vX10_isWithin x2 0 5) = 0)) → (x1 = (hfi w a0_7 6)) → (x2 = 0) → (¬ (x2 = 0)) → (¬ ((vX10_isWithin x1 0 199) = 0)) → (x2 = 1) → vp_in x1 n_a0_7_1) (s8 : (¬ ((vX6_isMade w a0_7) = 0)) → (¬ ((vX10_isWithin x1 0 (hfi w a0_7 6)) = 0)) → (¬ ((vX10_isWithin x2 0 5) = 0)) → (x1 = (hfi w a0_7 6)) → (x2 = 0) → (¬ (x2 = 0)) → (¬ ((vX10_isWithin x1 0 199) = 0)) → (¬ x2 = 1) → (x2 = 2) → vp_in x1 n_a0_7_2) (s9 : (¬ ((vX6_isMade w a0_7) = 0)) → (¬ ((vX10_isWithin x1 0 (hfi w a0_7 6)) = 0)) → (¬ ((vX10_isWithin x2 0 5) = 0)) → (x1 = (hfi w a0_7 6)) → (x2 = 0) → (¬ (x2 = 0)) → (¬ ((vX10_isWithin x1 0 199) = 0)) → (¬ x2 = 1) → (¬ x2 = 2) → (x2 = 3) → vp_in x1 n_a0_7_3) (s10 : (¬ ((vX6_isMade w a0_7) = 0)) → (¬ ((vX10_isWithin x1 0 (hfi w a0_7 6)) = 0)) → (¬ ((vX10_isWithin x2 0 5) = 0)) → (x1 = (hfi w a0_7 6)) → (x2 = 0) → (¬ (x2 = 0)) → (¬ ((vX10_isWithin x1 0 199) = 0)) → (¬ x2 = 1) → (¬ x2 = 2) → (¬ x2 = 3) → (x2 = 4) → vp_in x1 n_a0_7_4) (s11 : (¬ ((vX6_isMade w a0_7) = 0)) → (¬ ((vX10_isWithin x1 0 (hfi w a0_7 6)) = 0)) → (¬ ((vX10_isWithin x2 0 5) = 0)) → (x1 = (hfi w a0_7 6)) → (x2 = 0) → (¬ (x2 = 0)) → (¬ ((vX10_isWithin x1 0 199) = 0)) → (¬ x2 = 1) → (¬ x2 = 2) → (¬ x2 = 3) → (¬ x2 = 4) → vp_in x1 n_a0_7_5) (s12 : (¬ ((vX6_isMade w a0_7) = 0)) → (¬ ((vX10_isWithin x1 0 (hfi w a0_7 6)) = 0)) → (¬ ((vX10_isWithin x2 0 5) = 0)) → (x1 = (hfi w a0_7 6)) → (x2 = 0) → (x2 = 0) → (¬ ((vX10_isWithin x1 0 200) = 0)) → vp_in x1 n_a0_7_0) (k1 : (¬ ((vX6_isMade w a0_7) = 0)) → (¬ ((vX10_isWithin x1 0 (hfi w a0_7 6)) = 0)) → ((vX10_isWithin x2 0 5) = 0) → ∀ n, hN w ≤ n → Φ (.inr "java/lang/IllegalArgumentException") (snn w n)) (k2 : (¬ ((vX6_isMade w a0_7) = 0)) → (¬ ((vX10_isWithin x1 0 (hfi w a0_7 6)) = 0)) → (¬ ((vX10_isWithin x2 0 5) = 0)) → (¬ (x1 = (hfi w a0_7 6))) → Φ (.inl (some (.int (vX6_part w x1 x2 a0_7_1 a0_7_2 a0_7_3 a0_7_4 a0_7_5 a0_7_0)))) w) (k3 : (¬ ((vX6_isMade w a0_7) = 0)) → (¬ ((vX10_isWithin x1 0 (hfi w a0_7 6)) = 0)) → (¬ ((vX10_isWithin x2 0 5) = 0)) → (x1 = (hfi w a0_7 6)) → (x2 = 0) → Φ (.inl (some (.int (vX6_part w x1 x2 a0_7_1 a0_7_2 a0_7_3 a0_7_4 a0_7_5 a0_7_0)))) w) (k4 : (¬ ((vX6_isMade w a0_7) = 0)) → (¬ ((vX10_isWithin x1 0 (hfi w a0_7 6)) = 0)) → (¬ ((vX10_isWithin x2 0 5) = 0)) → (x1 = (hfi w a0_7 6)) → (¬ (x2 = 0)) → ∀ n, hN w ≤ n → Φ (.inr "java/lang/IllegalArgumentException") (snn w n)) (k5 : (¬ ((vX6_isMade w a0_7) = 0)) → ((vX10_isWithin x1 0 (hfi w a0_7 6)) = 0) → ∀ n, hN w ≤ n → Φ (.inr "java/lang/IndexOutOfBoundsException") (snn w n)) (k6 : ((vX6_isMade w a0_7) = 0) → ∀ n, hN w ≤ n → Φ (.inr "java/lang/IllegalStateException") (snn w n)) : mW G mX10_trace 9 1 6 0 [(0, .ref a0), (1, .int x1), (2, .int x2)] [] w Φ := by
  refine mW_aload_n (j := 0) dX10_trace_0 rfl rfl ?_
  refine mW_getR dX10_trace_1 f_X10_54 h1 rfl h2 ?_
  refine mW_callVe (As := []) (rest := []) (kc2 := 1) (ks2 := 6) dX10_trace_4 l_X10_271 rfl h3 rfl (by decide) (qX6_isMade (w := w) (a0 := a0_7) h3) (Nat.le_of_ble_eq_true rfl) (by decide) rfl rfl ?_
  refine mW_if_ne (tgt := 21) dX10_trace_7 (by decide) (fun c1 => ?_) (fun c1 => ?_)
  · refine mW_iload_n (j := 1) dX10_trace_21 rfl rfl ?_
    refine mW_iconst (v := 0) dX10_trace_22 (by decide) ?_
    refine mW_aload_n (j := 0) dX10_trace_23 rfl rfl ?_
    refine mW_getR dX10_trace_24 f_X10_54 h1 rfl h2 ?_
    refine mW_get dX10_trace_27 f_X10_276 h3 rfl ?_
    refine mW_callSe (As := [.int x1, .int 0, .int (hfi w a0_7 6)]) (rest := []) (kc2 := 1) (ks2 := 6) dX10_trace_30 l_X10_78 rfl (qX10_isWithin (w := w) (x0 := x1) (x1 := 0) (x2 := hfi w a0_7 6)) (Nat.le_of_ble_eq_true rfl) (by decide) rfl rfl ?_
    refine mW_if_ne (tgt := 46) dX10_trace_33 (by decide) (fun c2 => ?_) (fun c2 => ?_)
    · refine mW_iload_n (j := 2) dX10_trace_46 rfl rfl ?_
      refine mW_iconst (v := 0) dX10_trace_47 (by decide) ?_
      refine mW_iconst (v := 5) dX10_trace_48 (by decide) ?_
      refine mW_callSe (As := [.int x2, .int 0, .int 5]) (rest := []) (kc2 := 1) (ks2 := 6) dX10_trace_49 l_X10_78 rfl (qX10_isWithin (w := w) (x0 := x2) (x1 := 0) (x2 := 5)) (Nat.le_of_ble_eq_true rfl) (by decide) rfl rfl ?_
      refine mW_if_eq (tgt := 70) dX10_trace_52 (by decide) (fun c3 => ?_) (fun c3 => ?_)
      · exact mW_thrW (text := "no such part of the trace") (names := ["java/lang/RuntimeException", "java/lang/Exception"]) dX10_trace_70 dX10_trace_73 dX10_trace_74 dX10_trace_77 dX10_trace_80 th_96_100 (by decide +kernel) rfl (Nat.le_of_ble_eq_true rfl) (by decide) (by decide) (by decide) (k1 c1 c2 c3)
      · refine mW_iload_n (j := 1) dX10_trace_55 rfl rfl ?_
        refine mW_aload_n (j := 0) dX10_trace_56 rfl rfl ?_
        refine mW_getR dX10_trace_57 f_X10_54 h1 rfl h2 ?_
        refine mW_get dX10_trace_60 f_X10_276 h3 rfl ?_
        refine mW_icmp_ne (tgt := 81) dX10_trace_63 (by decide) (fun c4 => ?_) (fun c4 => ?_)
        · refine mW_aload_n (j := 0) dX10_trace_81 rfl rfl ?_
          refine mW_getR dX10_trace_82 f_X10_54 h1 rfl h2 ?_
          refine mW_iload_n (j := 1) dX10_trace_85 rfl rfl ?_
          refine mW_iload_n (j := 2) dX10_trace_86 rfl rfl ?_
          refine mW_callVe (As := [.int x1, .int x2]) (rest := []) (kc2 := 1) (ks2 := 6) dX10_trace_87 l_X10_280 rfl h3 rfl (by decide) (qX6_part (w := w) (a0 := a0_7) (x1 := x1) (x2 := x2) h3 h4 h5 (s1 c1 c2 c3 c4) h6 h7 (s2 c1 c2 c3 c4) h8 h9 (s3 c1 c2 c3 c4) h10 h11 (s4 c1 c2 c3 c4) h12 h13 (s5 c1 c2 c3 c4) h14 h15 (s6 c1 c2 c3 c4)) (Nat.le_of_ble_eq_true rfl) (by decide) rfl rfl ?_
          exact mW_iret dX10_trace_90 rfl (k2 c1 c2 c3 c4)
        · refine mW_iload_n (j := 2) dX10_trace_66 rfl rfl ?_
          refine mW_if_eq (tgt := 81) dX10_trace_67 (by decide) (fun c5 => ?_) (fun c5 => ?_)
          · refine mW_aload_n (j := 0) dX10_trace_81 rfl rfl ?_
            refine mW_getR dX10_trace_82 f_X10_54 h1 rfl h2 ?_
            refine mW_iload_n (j := 1) dX10_trace_85 rfl rfl ?_
            refine mW_iload_n (j := 2) dX10_trace_86 rfl rfl ?_
            refine mW_callVe (As := [.int x1, .int x2]) (rest := []) (kc2 := 1) (ks2 := 6) dX10_trace_87 l_X10_280 rfl h3 rfl (by decide) (qX6_part (w := w) (a0 := a0_7) (x1 := x1) (x2 := x2) h3 h4 h5 (s7 c1 c2 c3 c4 c5) h6 h7 (s8 c1 c2 c3 c4 c5) h8 h9 (s9 c1 c2 c3 c4 c5) h10 h11 (s10 c1 c2 c3 c4 c5) h12 h13 (s11 c1 c2 c3 c4 c5) h14 h15 (s12 c1 c2 c3 c4 c5)) (Nat.le_of_ble_eq_true rfl) (by decide) rfl rfl ?_
            exact mW_iret dX10_trace_90 rfl (k3 c1 c2 c3 c4 c5)
          · exact mW_thrW (text := "no such part of the trace") (names := ["java/lang/RuntimeException", "java/lang/Exception"]) dX10_trace_70 dX10_trace_73 dX10_trace_74 dX10_trace_77 dX10_trace_80 th_96_100 (by decide +kernel) rfl (Nat.le_of_ble_eq_true rfl) (by decide) (by decide) (by decide) (k4 c1 c2 c3 c4 c5)
    · exact mW_thr (text := "no such step") (names := ["java/lang/RuntimeException", "java/lang/Exception"]) dX10_trace_36 dX10_trace_39 dX10_trace_40 dX10_trace_42 dX10_trace_45 th_82_86 (by decide +kernel) rfl (Nat.le_of_ble_eq_true rfl) (by decide) (by decide) (by decide) (k5 c1 c2)
  · exact mW_thrW (text := "there is no trace") (names := ["java/lang/RuntimeException", "java/lang/Exception"]) dX10_trace_10 dX10_trace_13 dX10_trace_14 dX10_trace_17 dX10_trace_20 th_120_124 (by decide +kernel) rfl (Nat.le_of_ble_eq_true rfl) (by decide) (by decide) (by decide) (k6 c1)
theorem tX10_trace {G : mG} {w : mH} {a0 : Nat} {x1 : Int32} {x2 : Int32} {N : Nat} {T : Nat → Nat → Int32} (z : zBen w a0) (hT : tRw w (a0 + 158) T N) (h200 : N ≤ 200) : mC G mX10_trace 9 1 6 [.ref a0, .int x1, .int x2] w (tpO "java/lang/IllegalStateException" "java/lang/IndexOutOfBoundsException" "java/lang/IllegalArgumentException" (if N = 0 then 1 else if vX10_isWithin x1 0 (nI N) = 0 then 2 else if vX10_isWithin x2 0 5 = 0 then 3 else if x1 = nI N then (if x2 = 0 then 0 else 3) else 0) (.int (T x2.toNatClampNeg x1.toNatClampNeg)) (fun u => u = w) (fun u => u = w)) := by
  refine mC_of (by decide +kernel) rfl (Nat.le_of_ble_eq_true rfl) rfl ?_
  refine gX10_trace_0 (a0_7 := a0 + 158) (a0_7_1 := a0 + 160) (a0_7_2 := a0 + 161) (a0_7_3 := a0 + 162) (a0_7_4 := a0 + 163) (a0_7_5 := a0 + 164) (a0_7_0 := a0 + 159) z.1 z.2.2.2.2.2.2.1 z.2.2.2.2.2.2.2.2.2.2.2.2.2.2.2.2.1.1 z.2.2.2.2.2.2.2.2.2.2.2.2.2.2.2.2.1.2.2.1 z.2.2.2.2.2.2.2.2.2.2.2.2.2.2.2.2.1.2.2.2.2.2.2.2.2.1 (by intro c1 c2 c3 c4; intro g0 g1 g2; obtain ⟨s, hs, hx⟩ := iw_N (n := 199) (by decide) rfl g1; rw [hx]; exact m_vp (by omega) (by decide)) z.2.2.2.2.2.2.2.2.2.2.2.2.2.2.2.2.1.2.2.2.1 z.2.2.2.2.2.2.2.2.2.2.2.2.2.2.2.2.1.2.2.2.2.2.2.2.2.2.1 (by intro c1 c2 c3 c4; intro g0 g1 g2 g3; obtain ⟨s, hs, hx⟩ := iw_N (n := 199) (by decide) rfl g1; rw [hx]; exact m_vp (by omega) (by decide)) z.2.2.2.2.2.2.2.2.2.2.2.2.2.2.2.2.1.2.2.2.2.1 z.2.2.2.2.2.2.2.2.2.2.2.2.2.2.2.2.1.2.2.2.2.2.2.2.2.2.2.1 (by intro c1 c2 c3 c4; intro g0 g1 g2 g3 g4; obtain ⟨s, hs, hx⟩ := iw_N (n := 199) (by decide) rfl g1; rw [hx]; exact m_vp (by omega) (by decide)) z.2.2.2.2.2.2.2.2.2.2.2.2.2.2.2.2.1.2.2.2.2.2.1 z.2.2.2.2.2.2.2.2.2.2.2.2.2.2.2.2.1.2.2.2.2.2.2.2.2.2.2.2.1 (by intro c1 c2 c3 c4; intro g0 g1 g2 g3 g4 g5; obtain ⟨s, hs, hx⟩ := iw_N (n := 199) (by decide) rfl g1; rw [hx]; exact m_vp (by omega) (by decide)) z.2.2.2.2.2.2.2.2.2.2.2.2.2.2.2.2.1.2.2.2.2.2.2.1 z.2.2.2.2.2.2.2.2.2.2.2.2.2.2.2.2.1.2.2.2.2.2.2.2.2.2.2.2.2 (by intro c1 c2 c3 c4; intro g0 g1 g2 g3 g4 g5; obtain ⟨s, hs, hx⟩ := iw_N (n := 199) (by decide) rfl g1; rw [hx]; exact m_vp (by omega) (by decide)) z.2.2.2.2.2.2.2.2.2.2.2.2.2.2.2.2.1.2.1 z.2.2.2.2.2.2.2.2.2.2.2.2.2.2.2.2.1.2.2.2.2.2.2.2.1 (by intro c1 c2 c3 c4; intro g0 g1; obtain ⟨s, hs, hx⟩ := iw_N (n := 200) (by decide) rfl g1; rw [hx]; exact m_vp (by omega) (by decide)) (by intro c1 c2 c3 c4 c5; intro g0 g1 g2; obtain ⟨s, hs, hx⟩ := iw_N (n := 199) (by decide) rfl g1; rw [hx]; exact m_vp (by omega) (by decide)) (by intro c1 c2 c3 c4 c5; intro g0 g1 g2 g3; obtain ⟨s, hs, hx⟩ := iw_N (n := 199) (by decide) rfl g1; rw [hx]; exact m_vp (by omega) (by decide)) (by intro c1 c2 c3 c4 c5; intro g0 g1 g2 g3 g4; obtain ⟨s, hs, hx⟩ := iw_N (n := 199) (by decide) rfl g1; rw [hx]; exact m_vp (by omega) (by decide)) (by intro c1 c2 c3 c4 c5; intro g0 g1 g2 g3 g4 g5; obtain ⟨s, hs, hx⟩ := iw_N (n := 199) (by decide) rfl g1; rw [hx]; exact m_vp (by omega) (by decide)) (by intro c1 c2 c3 c4 c5; intro g0 g1 g2 g3 g4 g5; obtain ⟨s, hs, hx⟩ := iw_N (n := 199) (by decide) rfl g1; rw [hx]; exact m_vp (by omega) (by decide)) (by intro c1 c2 c3 c4 c5; intro g0 g1; obtain ⟨s, hs, hx⟩ := iw_N (n := 200) (by decide) rfl g1; rw [hx]; exact m_vp (by omega) (by decide)) ?_ ?_ ?_ ?_ ?_ ?_
  · intro c1 c2 c3
    have nz := made_y hT.1 h200 c1
    rw [show hfi w (a0 + 158) 6 = nI N from hT.1] at c2
    exact tp_3 (by rw [if_neg nz, if_neg c2, if_pos c3]) rfl
  · intro c1 c2 c3 c4
    have nz := made_y hT.1 h200 c1
    rw [show hfi w (a0 + 158) 6 = nI N from hT.1] at c2
    rw [show hfi w (a0 + 158) 6 = nI N from hT.1] at c4
    obtain ⟨s, hs, hx⟩ := iw_N (n := N) (by omega) rfl c2
    obtain ⟨j, hj, hy⟩ := iw_N (n := 5) (by decide) rfl c3
    have cl : x1.toNatClampNeg = s := by rw [hx]; exact m_cl (by omega)
    have cm : x2.toNatClampNeg = j := by rw [hy]; exact m_cl (by omega)
    have sN : s ≠ N := fun q => c4 (by rw [hx, q])
    exact tp_okv (by rw [if_neg nz, if_neg c2, if_neg c3, if_neg c4]) (by rw [cl, cm, hx, hy]; exact congrArg Value.int (part_v hT h200 hs hj (Or.inr (by omega)))) rfl
  · intro c1 c2 c3 c4 c5
    have nz := made_y hT.1 h200 c1
    rw [show hfi w (a0 + 158) 6 = nI N from hT.1] at c2
    rw [show hfi w (a0 + 158) 6 = nI N from hT.1] at c4
    obtain ⟨s, hs, hx⟩ := iw_N (n := N) (by omega) rfl c2
    obtain ⟨j, hj, hy⟩ := iw_N (n := 5) (by decide) rfl c3
    have cl : x1.toNatClampNeg = s := by rw [hx]; exact m_cl (by omega)
    have cm : x2.toNatClampNeg = j := by rw [hy]; exact m_cl (by omega)
    have j0 : j = 0 := by rw [← cm, c5]; rfl
    exact tp_okv (by rw [if_neg nz, if_neg c2, if_neg c3, if_pos c4, if_pos c5]) (by rw [cl, cm, hx, hy]; exact congrArg Value.int (part_v hT h200 hs hj (Or.inl j0))) rfl
  · intro c1 c2 c3 c4 c5
    have nz := made_y hT.1 h200 c1
    rw [show hfi w (a0 + 158) 6 = nI N from hT.1] at c2
    rw [show hfi w (a0 + 158) 6 = nI N from hT.1] at c4
    exact tp_3 (by rw [if_neg nz, if_neg c2, if_neg c3, if_pos c4, if_neg c5]) rfl
  · intro c1 c2
    have nz := made_y hT.1 h200 c1
    rw [show hfi w (a0 + 158) 6 = nI N from hT.1] at c2
    exact tp_2 (by rw [if_neg nz, if_pos c2]) rfl
  · intro c1
    exact tp_1 (by rw [if_pos (made_n hT.1 h200 c1)]) rfl
abbrev mX10_measure : mM := (yX10_measure, cX10_measure, 2, (some .int), [])
theorem u1384 : (Cond.code ⟨"LineFollowerBench$Trace", "measured", "(II)I"⟩ prog_8_method_5_code 3 (some .int) : Cond) ∈ mTs := mTs_in 1384 (by decide +kernel) (by decide +kernel)
theorem co_X6_measured : mCode mX6_measured := ⟨u1384, u82, by decide⟩
theorem u1381 : (Cond.methodLink "LineFollowerBench" 286 ⟨"LineFollowerBench$Trace", "measured", "(II)I"⟩ : Cond) ∈ mTs := mTs_in 1381 (by decide +kernel) (by decide +kernel)
theorem u1382 : (Cond.instanceMethod ⟨"LineFollowerBench$Trace", "measured", "(II)I"⟩ : Cond) ∈ mTs := mTs_in 1382 (by decide +kernel) (by decide +kernel)
theorem u1383 : (Cond.selects "LineFollowerBench$Trace" ⟨"LineFollowerBench$Trace", "measured", "(II)I"⟩ ⟨"LineFollowerBench$Trace", "measured", "(II)I"⟩ : Cond) ∈ mTs := mTs_in 1383 (by decide +kernel) (by decide +kernel)
theorem l_X10_286 : mLinkV "LineFollowerBench" 286 2 mX6_measured := ⟨⟨by decide, by decide, by decide +kernel⟩, co_X6_measured, u1381, u1382, u1383⟩
set_option maxHeartbeats 4000000 in
set_option maxRecDepth 100000 in
theorem gX10_measure_0 {G : mG} {w : mH} {Φ : mF} {a0 : Nat} {x1 : Int32} {N : Nat} {T : Nat → Nat → Int32} {a0_7 a0_0 a0_0_0 n_a0_0_0 : Nat} (h1 : hk w a0 = (10, 0)) (h2 : hfr w a0 7 = some a0_7) (h3 : hk w a0_7 = (6, 0)) (h4 : hfr w a0 0 = some a0_0) (h5 : hk w a0_0 = (3, 0)) (h6 : hfr w a0_0 0 = some a0_0_0) (h7 : hk w a0_0_0 = (16, n_a0_0_0)) (s1 : vp_in 14 n_a0_0_0) (h8 : zTra w a0_7) (s2 : (¬ ((vX6_isMade w a0_7) = 0)) → (¬ ((vX10_isWithin x1 0 7) = 0)) → tRw w a0_7 T N) (s3 : (¬ ((vX6_isMade w a0_7) = 0)) → (¬ ((vX10_isWithin x1 0 7) = 0)) → N ≤ 200) (s4 : (¬ ((vX6_isMade w a0_7) = 0)) → (¬ ((vX10_isWithin x1 0 7) = 0)) → 1 ≤ N) (k1 : (¬ ((vX6_isMade w a0_7) = 0)) → (¬ ((vX10_isWithin x1 0 7) = 0)) → Φ (.inl (some (.int (tMeas T N x1 (hai w a0_0_0 14))))) w) (k2 : (¬ ((vX6_isMade w a0_7) = 0)) → ((vX10_isWithin x1 0 7) = 0) → ∀ n, hN w ≤ n → Φ (.inr "java/lang/IllegalArgumentException") (snn w n)) (k3 : ((vX6_isMade w a0_7) = 0) → ∀ n, hN w ≤ n → Φ (.inr "java/lang/IllegalStateException") (snn w n)) : mW G mX10_measure 9 1 6 0 [(0, .ref a0), (1, .int x1)] [] w Φ := by
  refine mW_aload_n (j := 0) dX10_measure_0 rfl rfl ?_
  refine mW_getR dX10_measure_1 f_X10_54 h1 rfl h2 ?_
  refine mW_callVe (As := []) (rest := []) (kc2 := 1) (ks2 := 6) dX10_measure_4 l_X10_271 rfl h3 rfl (by decide) (qX6_isMade (w := w) (a0 := a0_7) h3) (Nat.le_of_ble_eq_true rfl) (by decide) rfl rfl ?_
  refine mW_if_ne (tgt := 21) dX10_measure_7 (by decide) (fun c1 => ?_) (fun c1 => ?_)
  · refine mW_iload_n (j := 1) dX10_measure_21 rfl rfl ?_
    refine mW_iconst (v := 0) dX10_measure_22 (by decide) ?_
    refine mW_bipush (v := 7) dX10_measure_23 (by decide) ?_
    refine mW_callSe (As := [.int x1, .int 0, .int 7]) (rest := []) (kc2 := 1) (ks2 := 6) dX10_measure_25 l_X10_78 rfl (qX10_isWithin (w := w) (x0 := x1) (x1 := 0) (x2 := 7)) (Nat.le_of_ble_eq_true rfl) (by decide) rfl rfl ?_
    refine mW_if_ne (tgt := 42) dX10_measure_28 (by decide) (fun c2 => ?_) (fun c2 => ?_)
    · refine mW_aload_n (j := 0) dX10_measure_42 rfl rfl ?_
      refine mW_getR dX10_measure_43 f_X10_54 h1 rfl h2 ?_
      refine mW_iload_n (j := 1) dX10_measure_46 rfl rfl ?_
      refine mW_aload_n (j := 0) dX10_measure_47 rfl rfl ?_
      refine mW_getR dX10_measure_48 f_X10_12 h1 rfl h4 ?_
      refine mW_getR dX10_measure_51 f_X10_105 h5 rfl h6 ?_
      refine mW_bipush (v := 14) dX10_measure_54 (by decide) ?_
      refine mW_ialdJ dX10_measure_56 h7 s1 (j := 14) (by decide) ?_
      refine mW_callVe (As := [.int x1, .int (hai w a0_0_0 14)]) (rest := []) (kc2 := 1) (ks2 := 6) dX10_measure_57 l_X10_286 rfl h3 rfl (by decide) (qX6_measured' (w := w) (a0 := a0_7) (x1 := x1) (x2 := hai w a0_0_0 14) h8 (s2 c1 c2) (s3 c1 c2) (s4 c1 c2)) (Nat.le_of_ble_eq_true rfl) (by decide) rfl rfl ?_
      exact mW_iret dX10_measure_60 rfl (k1 c1 c2)
    · exact mW_thrW (text := "no such measure") (names := ["java/lang/RuntimeException", "java/lang/Exception"]) dX10_measure_31 dX10_measure_34 dX10_measure_35 dX10_measure_38 dX10_measure_41 th_96_100 (by decide +kernel) rfl (Nat.le_of_ble_eq_true rfl) (by decide) (by decide) (by decide) (k2 c1 c2)
  · exact mW_thrW (text := "there is no trace") (names := ["java/lang/RuntimeException", "java/lang/Exception"]) dX10_measure_10 dX10_measure_13 dX10_measure_14 dX10_measure_17 dX10_measure_20 th_120_124 (by decide +kernel) rfl (Nat.le_of_ble_eq_true rfl) (by decide) (by decide) (by decide) (k3 c1)
theorem tX10_measure {G : mG} {w : mH} {a0 : Nat} {x1 : Int32} {A : Nat → Int32} {N : Nat} {T : Nat → Nat → Int32} (z : zBen w a0) (hS : sRep w (a0 + 1) A) (hT : tRw w (a0 + 158) T N) (h200 : N ≤ 200) : mC G mX10_measure 9 1 6 [.ref a0, .int x1] w (tpO "java/lang/IllegalStateException" "java/lang/IllegalArgumentException" "" (if N = 0 then 1 else if vX10_isWithin x1 0 7 = 0 then 2 else 0) (.int (tMeas T N x1 (A 14))) (fun u => u = w) (fun u => u = w)) := by
  refine mC_of (by decide +kernel) rfl (Nat.le_of_ble_eq_true rfl) rfl ?_
  refine gX10_measure_0 (N := N) (T := T) (a0_7 := a0 + 158) (a0_0 := a0 + 1) (a0_0_0 := a0 + 2) z.1 z.2.2.2.2.2.2.1 z.2.2.2.2.2.2.2.2.2.2.2.2.2.2.2.2.1.1 z.2.1 z.2.2.2.2.2.2.2.2.2.2.2.1.1 z.2.2.2.2.2.2.2.2.2.2.2.1.2.1 z.2.2.2.2.2.2.2.2.2.2.2.1.2.2.2.2.2.2.1 (by intros; unfold vp_in; decide) z.2.2.2.2.2.2.2.2.2.2.2.2.2.2.2.2.1 (by intro c1 c2; exact hT) (by intro c1 c2; exact h200) (by intro c1 c2; have nz := made_y hT.1 h200 c1; omega) ?_ ?_ ?_
  · intro c1 c2
    have nz := made_y hT.1 h200 c1
    exact tp_okv (by rw [if_neg nz, if_neg c2]) (by rw [show hai w (a0 + 2) 14 = A 14 from hS.1 14 (by decide)]) rfl
  · intro c1 c2
    have nz := made_y hT.1 h200 c1
    exact tp_2 (by rw [if_neg nz, if_pos c2]) rfl
  · intro c1
    exact tp_1 (by rw [if_pos (made_n hT.1 h200 c1)]) rfl
abbrev mX10_cost : mM := (yX10_cost, cX10_cost, 1, (some .long), [])
theorem u1401 : (Cond.methodLink "LineFollowerBench" 289 ⟨"LineFollowerBench$Trace", "weighted", "([II)J"⟩ : Cond) ∈ mTs := mTs_in 1401 (by decide +kernel) (by decide +kernel)
theorem l_X10_289 : mLinkV "LineFollowerBench" 289 2 mX6_weighted := ⟨⟨by decide, by decide, by decide +kernel⟩, co_X6_weighted, u1401, u622, u623⟩
set_option maxHeartbeats 4000000 in
set_option maxRecDepth 100000 in
theorem gX10_cost_0 {G : mG} {w : mH} {Φ : mF} {a0 N : Nat} {T : Nat → Nat → Int32} {W : Nat → Int32} {a0_7 a0_0 a0_0_1 a0_0_0 n_a0_0_0 : Nat} (h1 : hk w a0 = (10, 0)) (h2 : hfr w a0 7 = some a0_7) (h3 : hk w a0_7 = (6, 0)) (h4 : hfr w a0 0 = some a0_0) (h5 : hk w a0_0 = (3, 0)) (h6 : hfr w a0_0 1 = some a0_0_1) (h7 : hfr w a0_0 0 = some a0_0_0) (h8 : hk w a0_0_0 = (16, n_a0_0_0)) (s1 : vp_in 14 n_a0_0_0) (h9 : zTra w a0_7) (s2 : (¬ ((vX6_isMade w a0_7) = 0)) → tRw w a0_7 T N) (s3 : (¬ ((vX6_isMade w a0_7) = 0)) → N ≤ 200) (h10 : hk w a0_0_1 = (16, 5)) (s4 : (¬ ((vX6_isMade w a0_7) = 0)) → ∀ k, k < 5 → hai w a0_0_1 k = W k) (k1 : (¬ ((vX6_isMade w a0_7) = 0)) → Φ (.inl (some (.long (tCost T N W (hai w a0_0_0 14))))) w) (k2 : ((vX6_isMade w a0_7) = 0) → ∀ n, hN w ≤ n → Φ (.inr "java/lang/IllegalStateException") (snn w n)) : mW G mX10_cost 9 1 6 0 [(0, .ref a0)] [] w Φ := by
  refine mW_aload_n (j := 0) dX10_cost_0 rfl rfl ?_
  refine mW_getR dX10_cost_1 f_X10_54 h1 rfl h2 ?_
  refine mW_callVe (As := []) (rest := []) (kc2 := 1) (ks2 := 6) dX10_cost_4 l_X10_271 rfl h3 rfl (by decide) (qX6_isMade (w := w) (a0 := a0_7) h3) (Nat.le_of_ble_eq_true rfl) (by decide) rfl rfl ?_
  refine mW_if_ne (tgt := 21) dX10_cost_7 (by decide) (fun c1 => ?_) (fun c1 => ?_)
  · refine mW_aload_n (j := 0) dX10_cost_21 rfl rfl ?_
    refine mW_getR dX10_cost_22 f_X10_54 h1 rfl h2 ?_
    refine mW_aload_n (j := 0) dX10_cost_25 rfl rfl ?_
    refine mW_getR dX10_cost_26 f_X10_12 h1 rfl h4 ?_
    refine mW_getR dX10_cost_29 f_X10_168 h5 rfl h6 ?_
    refine mW_aload_n (j := 0) dX10_cost_32 rfl rfl ?_
    refine mW_getR dX10_cost_33 f_X10_12 h1 rfl h4 ?_
    refine mW_getR dX10_cost_36 f_X10_105 h5 rfl h7 ?_
    refine mW_bipush (v := 14) dX10_cost_39 (by decide) ?_
    refine mW_ialdJ dX10_cost_41 h8 s1 (j := 14) (by decide) ?_
    refine mW_callVe (As := [.ref a0_0_1, .int (hai w a0_0_0 14)]) (rest := []) (kc2 := 1) (ks2 := 6) dX10_cost_42 l_X10_289 rfl h3 rfl (by decide) (qX6_weighted' (w := w) (a0 := a0_7) (a1 := a0_0_1) (x2 := hai w a0_0_0 14) h9 (s2 c1) (s3 c1) h10 (s4 c1)) (Nat.le_of_ble_eq_true rfl) (by decide) rfl rfl ?_
    exact mW_lret dX10_cost_45 rfl (k1 c1)
  · exact mW_thrW (text := "there is no trace") (names := ["java/lang/RuntimeException", "java/lang/Exception"]) dX10_cost_10 dX10_cost_13 dX10_cost_14 dX10_cost_17 dX10_cost_20 th_120_124 (by decide +kernel) rfl (Nat.le_of_ble_eq_true rfl) (by decide) (by decide) (by decide) (k2 c1)
theorem tX10_cost {G : mG} {w : mH} {a0 : Nat} {A : Nat → Int32} {N : Nat} {T : Nat → Nat → Int32} (z : zBen w a0) (hS : sRep w (a0 + 1) A) (hT : tRw w (a0 + 158) T N) (h200 : N ≤ 200) : mC G mX10_cost 9 1 6 [.ref a0] w (tpO "java/lang/IllegalStateException" "" "" (if N = 0 then 1 else 0) (.long (tCost T N (fun k => A (15 + k)) (A 14))) (fun u => u = w) (fun u => u = w)) := by
  refine mC_of (by decide +kernel) rfl (Nat.le_of_ble_eq_true rfl) rfl ?_
  refine gX10_cost_0 (N := N) (T := T) (W := fun k => A (15 + k)) (a0_7 := a0 + 158) (a0_0 := a0 + 1) (a0_0_1 := a0 + 3) (a0_0_0 := a0 + 2) z.1 z.2.2.2.2.2.2.1 z.2.2.2.2.2.2.2.2.2.2.2.2.2.2.2.2.1.1 z.2.1 z.2.2.2.2.2.2.2.2.2.2.2.1.1 z.2.2.2.2.2.2.2.2.2.2.2.1.2.2.1 z.2.2.2.2.2.2.2.2.2.2.2.1.2.1 z.2.2.2.2.2.2.2.2.2.2.2.1.2.2.2.2.2.2.1 (by intros; unfold vp_in; decide) z.2.2.2.2.2.2.2.2.2.2.2.2.2.2.2.2.1 (by intro c1; exact hT) (by intro c1; exact h200) z.2.2.2.2.2.2.2.2.2.2.2.1.2.2.2.2.2.2.2.1 (by intro c1; exact hS.2.1) ?_ ?_
  · intro c1
    have nz := made_y hT.1 h200 c1
    exact tp_okv (by rw [if_neg nz]) (by rw [show hai w (a0 + 2) 14 = A 14 from hS.1 14 (by decide)]) rfl
  · intro c1
    exact tp_1 (by rw [if_pos (made_n hT.1 h200 c1)]) rfl
abbrev mX10_meanSquareBits : mM := (yX10_meanSquareBits, cX10_meanSquareBits, 1, (some .long), [])
theorem u1421 : (Cond.code ⟨"LineFollowerBench$Trace", "meanSquare", "()D"⟩ prog_8_method_16_code 4 (some .double) : Cond) ∈ mTs := mTs_in 1421 (by decide +kernel) (by decide +kernel)
theorem co_X6_meanSquare : mCode mX6_meanSquare := ⟨u1421, u82, by decide⟩
theorem u1418 : (Cond.methodLink "LineFollowerBench" 307 ⟨"LineFollowerBench$Trace", "meanSquare", "()D"⟩ : Cond) ∈ mTs := mTs_in 1418 (by decide +kernel) (by decide +kernel)
theorem u1419 : (Cond.instanceMethod ⟨"LineFollowerBench$Trace", "meanSquare", "()D"⟩ : Cond) ∈ mTs := mTs_in 1419 (by decide +kernel) (by decide +kernel)
theorem u1420 : (Cond.selects "LineFollowerBench$Trace" ⟨"LineFollowerBench$Trace", "meanSquare", "()D"⟩ ⟨"LineFollowerBench$Trace", "meanSquare", "()D"⟩ : Cond) ∈ mTs := mTs_in 1420 (by decide +kernel) (by decide +kernel)
theorem l_X10_307 : mLinkV "LineFollowerBench" 307 0 mX6_meanSquare := ⟨⟨by decide, by decide, by decide +kernel⟩, co_X6_meanSquare, u1418, u1419, u1420⟩
theorem u1424 : (Cond.code ⟨"LineFollowerBench", "doubleBits", "(D)J"⟩ prog_1_method_39_code 7 (some .long) : Cond) ∈ mTs := mTs_in 1424 (by decide +kernel) (by decide +kernel)
theorem co_X10_doubleBits : mCode mX10_doubleBits := ⟨u1424, u70, by decide⟩
theorem u1422 : (Cond.methodLink "LineFollowerBench" 311 ⟨"LineFollowerBench", "doubleBits", "(D)J"⟩ : Cond) ∈ mTs := mTs_in 1422 (by decide +kernel) (by decide +kernel)
theorem u1423 : (Cond.static ⟨"LineFollowerBench", "doubleBits", "(D)J"⟩ : Cond) ∈ mTs := mTs_in 1423 (by decide +kernel) (by decide +kernel)
theorem l_X10_311 : mLinkS "LineFollowerBench" 311 1 mX10_doubleBits := ⟨⟨by decide, by decide, by decide +kernel⟩, co_X10_doubleBits, u1422, u1423⟩
set_option maxHeartbeats 4000000 in
set_option maxRecDepth 100000 in
theorem gX10_meanSquareBits_0 {G : mG} {w : mH} {Φ : mF} {a0 N : Nat} {T : Nat → Nat → Int32} {a0_7 : Nat} (h1 : hk w a0 = (10, 0)) (h2 : hfr w a0 7 = some a0_7) (h3 : hk w a0_7 = (6, 0)) (h4 : zTra w a0_7) (s1 : (¬ ((vX6_isMade w a0_7) = 0)) → tRw w a0_7 T N) (s2 : (¬ ((vX6_isMade w a0_7) = 0)) → 1 ≤ N) (s3 : (¬ ((vX6_isMade w a0_7) = 0)) → N ≤ 200) (s4 : (¬ ((vX6_isMade w a0_7) = 0)) → eB (T 0) (N + 1)) (s5 : (¬ ((vX6_isMade w a0_7) = 0)) → (FP.ddiv (dSum (T 0) (N + 1)) (FP.i2d (nI (N + 1)))) = 0 ∨ ∃ e t : Nat, 1 ≤ e ∧ e ≤ 2046 ∧ t < 4503599627370496 ∧ (FP.ddiv (dSum (T 0) (N + 1)) (FP.i2d (nI (N + 1)))) = nD e t) (k1 : (¬ ((vX6_isMade w a0_7) = 0)) → Φ (.inl (some (.long ((FP.ddiv (dSum (T 0) (N + 1)) (FP.i2d (nI (N + 1)))).toInt64)))) w) (k2 : ((vX6_isMade w a0_7) = 0) → ∀ n, hN w ≤ n → Φ (.inr "java/lang/IllegalStateException") (snn w n)) : mW G mX10_meanSquareBits 9 1 6 0 [(0, .ref a0)] [] w Φ := by
  refine mW_aload_n (j := 0) dX10_meanSquareBits_0 rfl rfl ?_
  refine mW_getR dX10_meanSquareBits_1 f_X10_54 h1 rfl h2 ?_
  refine mW_callVe (As := []) (rest := []) (kc2 := 1) (ks2 := 6) dX10_meanSquareBits_4 l_X10_271 rfl h3 rfl (by decide) (qX6_isMade (w := w) (a0 := a0_7) h3) (Nat.le_of_ble_eq_true rfl) (by decide) rfl rfl ?_
  refine mW_if_ne (tgt := 21) dX10_meanSquareBits_7 (by decide) (fun c1 => ?_) (fun c1 => ?_)
  · refine mW_aload_n (j := 0) dX10_meanSquareBits_21 rfl rfl ?_
    refine mW_getR dX10_meanSquareBits_22 f_X10_54 h1 rfl h2 ?_
    refine mW_callVe (As := []) (rest := []) (kc2 := 1) (ks2 := 6) dX10_meanSquareBits_25 l_X10_307 rfl h3 rfl (by decide) (rX6_meanSquare (w := w) (a0 := a0_7) h4 (s1 c1) (s2 c1) (s3 c1) (s4 c1)) (Nat.le_of_ble_eq_true rfl) (by decide) rfl rfl ?_
    refine mW_callSe (As := [.double (FP.ddiv (dSum (T 0) (N + 1)) (FP.i2d (nI (N + 1))))]) (rest := []) (kc2 := 1) (ks2 := 6) dX10_meanSquareBits_28 l_X10_311 rfl (rX10_doubleBits (w := w) (x := (FP.ddiv (dSum (T 0) (N + 1)) (FP.i2d (nI (N + 1))))) (s5 c1)) (Nat.le_of_ble_eq_true rfl) (by decide) rfl rfl ?_
    exact mW_lret dX10_meanSquareBits_31 rfl (k1 c1)
  · exact mW_thrW (text := "there is no trace") (names := ["java/lang/RuntimeException", "java/lang/Exception"]) dX10_meanSquareBits_10 dX10_meanSquareBits_13 dX10_meanSquareBits_14 dX10_meanSquareBits_17 dX10_meanSquareBits_20 th_120_124 (by decide +kernel) rfl (Nat.le_of_ble_eq_true rfl) (by decide) (by decide) (by decide) (k2 c1)
theorem tX10_meanSquareBits {G : mG} {w : mH} {a0 : Nat} {N : Nat} {T : Nat → Nat → Int32} (z : zBen w a0) (hT : tRw w (a0 + 158) T N) (h200 : N ≤ 200) (hB : eB (T 0) (N + 1)) : mC G mX10_meanSquareBits 9 1 6 [.ref a0] w (tpO "java/lang/IllegalStateException" "" "" (if N = 0 then 1 else 0) (.long ((FP.ddiv (dSum (T 0) (N + 1)) (FP.i2d (nI (N + 1)))).toInt64)) (fun u => u = w) (fun u => u = w)) := by
  refine mC_of (by decide +kernel) rfl (Nat.le_of_ble_eq_true rfl) rfl ?_
  refine gX10_meanSquareBits_0 (N := N) (T := T) (a0_7 := a0 + 158) z.1 z.2.2.2.2.2.2.1 z.2.2.2.2.2.2.2.2.2.2.2.2.2.2.2.2.1.1 z.2.2.2.2.2.2.2.2.2.2.2.2.2.2.2.2.1 (by intro c1; exact hT) (by intro c1; have nz := made_y hT.1 h200 c1; omega) (by intro c1; exact h200) (by intro c1; exact hB) (by intro c1; exact dMean h200 hB) ?_ ?_
  · intro c1
    have nz := made_y hT.1 h200 c1
    exact tp_ok (by rw [if_neg nz]) rfl
  · intro c1
    exact tp_1 (by rw [if_pos (made_n hT.1 h200 c1)]) rfl
abbrev mX10_saturatedBits : mM := (yX10_saturatedBits, cX10_saturatedBits, 1, (some .int), [])
theorem u1438 : (Cond.code ⟨"LineFollowerBench$Trace", "saturatedShare", "()F"⟩ prog_8_method_17_code 1 (some .float) : Cond) ∈ mTs := mTs_in 1438 (by decide +kernel) (by decide +kernel)
theorem co_X6_saturatedShare : mCode mX6_saturatedShare := ⟨u1438, u82, by decide⟩
theorem u1435 : (Cond.methodLink "LineFollowerBench" 315 ⟨"LineFollowerBench$Trace", "saturatedShare", "()F"⟩ : Cond) ∈ mTs := mTs_in 1435 (by decide +kernel) (by decide +kernel)
theorem u1436 : (Cond.instanceMethod ⟨"LineFollowerBench$Trace", "saturatedShare", "()F"⟩ : Cond) ∈ mTs := mTs_in 1436 (by decide +kernel) (by decide +kernel)
theorem u1437 : (Cond.selects "LineFollowerBench$Trace" ⟨"LineFollowerBench$Trace", "saturatedShare", "()F"⟩ ⟨"LineFollowerBench$Trace", "saturatedShare", "()F"⟩ : Cond) ∈ mTs := mTs_in 1437 (by decide +kernel) (by decide +kernel)
theorem l_X10_315 : mLinkV "LineFollowerBench" 315 0 mX6_saturatedShare := ⟨⟨by decide, by decide, by decide +kernel⟩, co_X6_saturatedShare, u1435, u1436, u1437⟩
theorem u1441 : (Cond.code ⟨"LineFollowerBench", "floatBits", "(F)I"⟩ prog_1_method_40_code 4 (some .int) : Cond) ∈ mTs := mTs_in 1441 (by decide +kernel) (by decide +kernel)
theorem co_X10_floatBits : mCode mX10_floatBits := ⟨u1441, u70, by decide⟩
theorem u1439 : (Cond.methodLink "LineFollowerBench" 319 ⟨"LineFollowerBench", "floatBits", "(F)I"⟩ : Cond) ∈ mTs := mTs_in 1439 (by decide +kernel) (by decide +kernel)
theorem u1440 : (Cond.static ⟨"LineFollowerBench", "floatBits", "(F)I"⟩ : Cond) ∈ mTs := mTs_in 1440 (by decide +kernel) (by decide +kernel)
theorem l_X10_319 : mLinkS "LineFollowerBench" 319 1 mX10_floatBits := ⟨⟨by decide, by decide, by decide +kernel⟩, co_X10_floatBits, u1439, u1440⟩
set_option maxHeartbeats 4000000 in
set_option maxRecDepth 100000 in
theorem gX10_saturatedBits_0 {G : mG} {w : mH} {Φ : mF} {a0 N : Nat} {T : Nat → Nat → Int32} {a0_7 : Nat} (h1 : hk w a0 = (10, 0)) (h2 : hfr w a0 7 = some a0_7) (h3 : hk w a0_7 = (6, 0)) (h4 : zTra w a0_7) (s1 : (¬ ((vX6_isMade w a0_7) = 0)) → tRw w a0_7 T N) (s2 : (¬ ((vX6_isMade w a0_7) = 0)) → 1 ≤ N) (s3 : (¬ ((vX6_isMade w a0_7) = 0)) → N ≤ 200) (s4 : (¬ ((vX6_isMade w a0_7) = 0)) → ∀ t, t < N → T 5 t = 0 ∨ T 5 t = 1) (s5 : (¬ ((vX6_isMade w a0_7) = 0)) → (FP.fdiv (FP.i2f (fSat (T 5) N)) (FP.i2f (nI N))) = 0 ∨ ∃ e t : Nat, 1 ≤ e ∧ e ≤ 127 ∧ t < 8388608 ∧ (FP.fdiv (FP.i2f (fSat (T 5) N)) (FP.i2f (nI N))) = nF e t) (k1 : (¬ ((vX6_isMade w a0_7) = 0)) → Φ (.inl (some (.int ((FP.fdiv (FP.i2f (fSat (T 5) N)) (FP.i2f (nI N))).toInt32)))) w) (k2 : ((vX6_isMade w a0_7) = 0) → ∀ n, hN w ≤ n → Φ (.inr "java/lang/IllegalStateException") (snn w n)) : mW G mX10_saturatedBits 9 1 6 0 [(0, .ref a0)] [] w Φ := by
  refine mW_aload_n (j := 0) dX10_saturatedBits_0 rfl rfl ?_
  refine mW_getR dX10_saturatedBits_1 f_X10_54 h1 rfl h2 ?_
  refine mW_callVe (As := []) (rest := []) (kc2 := 1) (ks2 := 6) dX10_saturatedBits_4 l_X10_271 rfl h3 rfl (by decide) (qX6_isMade (w := w) (a0 := a0_7) h3) (Nat.le_of_ble_eq_true rfl) (by decide) rfl rfl ?_
  refine mW_if_ne (tgt := 21) dX10_saturatedBits_7 (by decide) (fun c1 => ?_) (fun c1 => ?_)
  · refine mW_aload_n (j := 0) dX10_saturatedBits_21 rfl rfl ?_
    refine mW_getR dX10_saturatedBits_22 f_X10_54 h1 rfl h2 ?_
    refine mW_callVe (As := []) (rest := []) (kc2 := 1) (ks2 := 6) dX10_saturatedBits_25 l_X10_315 rfl h3 rfl (by decide) (rX6_saturatedShare (w := w) (a0 := a0_7) h4 (s1 c1) (s2 c1) (s3 c1) (s4 c1)) (Nat.le_of_ble_eq_true rfl) (by decide) rfl rfl ?_
    refine mW_callSe (As := [.float (FP.fdiv (FP.i2f (fSat (T 5) N)) (FP.i2f (nI N)))]) (rest := []) (kc2 := 1) (ks2 := 6) dX10_saturatedBits_28 l_X10_319 rfl (rX10_floatBits (w := w) (x := (FP.fdiv (FP.i2f (fSat (T 5) N)) (FP.i2f (nI N)))) (s5 c1)) (Nat.le_of_ble_eq_true rfl) (by decide) rfl rfl ?_
    exact mW_iret dX10_saturatedBits_31 rfl (k1 c1)
  · exact mW_thrW (text := "there is no trace") (names := ["java/lang/RuntimeException", "java/lang/Exception"]) dX10_saturatedBits_10 dX10_saturatedBits_13 dX10_saturatedBits_14 dX10_saturatedBits_17 dX10_saturatedBits_20 th_120_124 (by decide +kernel) rfl (Nat.le_of_ble_eq_true rfl) (by decide) (by decide) (by decide) (k2 c1)
theorem tX10_saturatedBits {G : mG} {w : mH} {a0 : Nat} {N : Nat} {T : Nat → Nat → Int32} (z : zBen w a0) (hT : tRw w (a0 + 158) T N) (h200 : N ≤ 200) (hB : ∀ t, t < N → T 5 t = 0 ∨ T 5 t = 1) : mC G mX10_saturatedBits 9 1 6 [.ref a0] w (tpO "java/lang/IllegalStateException" "" "" (if N = 0 then 1 else 0) (.int ((FP.fdiv (FP.i2f (fSat (T 5) N)) (FP.i2f (nI N))).toInt32)) (fun u => u = w) (fun u => u = w)) := by
  refine mC_of (by decide +kernel) rfl (Nat.le_of_ble_eq_true rfl) rfl ?_
  refine gX10_saturatedBits_0 (N := N) (T := T) (a0_7 := a0 + 158) z.1 z.2.2.2.2.2.2.1 z.2.2.2.2.2.2.2.2.2.2.2.2.2.2.2.2.1.1 z.2.2.2.2.2.2.2.2.2.2.2.2.2.2.2.2.1 (by intro c1; exact hT) (by intro c1; have nz := made_y hT.1 h200 c1; omega) (by intro c1; exact h200) (by intro c1; exact hB) (by intro c1; have nz := made_y hT.1 h200 c1; obtain ⟨n, hn2, hn⟩ := eS_n2 hB N (Nat.le_refl _); rw [hn]; exact fShare1 hn2 (by omega) h200) ?_ ?_
  · intro c1
    have nz := made_y hT.1 h200 c1
    exact tp_ok (by rw [if_neg nz]) rfl
  · intro c1
    exact tp_1 (by rw [if_pos (made_n hT.1 h200 c1)]) rfl
