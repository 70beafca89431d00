/-! the reference: reading loops over its one row -/
theorem m_30 {i : Nat} : (30 : Int32) + 2 * nI i = nI (30 + 2 * i) := by rw [show (30 : Int32) = nI 30 from rfl, show (2 : Int32) = nI 2 from rfl, pk_mul, nI_add]
theorem m_41 {i : Nat} : (41 : Int32) + 3 * nI i = nI (41 + 3 * i) := by rw [show (41 : Int32) = nI 41 from rfl, show (3 : Int32) = nI 3 from rfl, pk_mul, nI_add]
theorem m_66 {i : Nat} : (66 : Int32) + 3 * nI i = nI (66 + 3 * i) := by rw [show (66 : Int32) = nI 66 from rfl, show (3 : Int32) = nI 3 from rfl, pk_mul, nI_add]
theorem m_p1 {i : Nat} : nI i + 1 = nI (i + 1) := nI_1 i
theorem m_p2 {i : Nat} : nI i + 2 = nI (i + 2) := by rw [show (2 : Int32) = nI 2 from rfl, nI_add]
/-- the reference at a: its row 'all' at b, of 624 ints -/
def rAt (w : mH) (a b : Nat) : Prop := hk w a = (11, 0) ∧ hfr w a 1 = some b ∧ hk w b = (16, 624)
def rX (A : Nat → Int32) (i : Nat) : Int32 := A (30 + 2 * i)
def rY (A : Nat → Int32) (i : Nat) : Int32 := A (30 + 2 * i + 1)
def rK (A : Nat → Int32) (i : Nat) : Int32 := A (41 + 3 * i)
def rL (A : Nat → Int32) (i : Nat) : Int32 := A (41 + 3 * i + 1)
def rC (A : Nat → Int32) (i : Nat) : Int32 := A (41 + 3 * i + 2)
def rF (A : Nat → Int32) (i : Nat) : Int32 := A (66 + 3 * i)
def rV (A : Nat → Int32) (i : Nat) : Int32 := A (66 + 3 * i + 1)
def rW (A : Nat → Int32) (i : Nat) : Int32 := A (66 + 3 * i + 2)
theorem vX11_x_n {w : mH} {b i : Nat} (h : i ≤ 1000) : vX11_x w (nI i) b = rX (hai w b) i := by simp only [vX11_x, rX, m_30, m_cl (show 30 + 2 * i ≤ 70000 by omega)]
theorem vX11_y_n {w : mH} {b i : Nat} (h : i ≤ 1000) : vX11_y w (nI i) b = rY (hai w b) i := by simp only [vX11_y, rY, m_30, m_p1, m_cl (show 30 + 2 * i + 1 ≤ 70000 by omega)]
/-- between the points i and i + 1 -/
def fBw (X Y : Nat → Int32) (i : Nat) (x : Int32) : Int32 := Y i + (Y (i + 1) - Y i) * (x - X i) / (X (i + 1) - X i)
def fTabL (X Y : Nat → Int32) (x : Int32) : Nat → Nat → Int32 | 0, i => fBw X Y i x | j + 1, i => if x < X (i + 1) then fBw X Y i x else fTabL X Y x j (i + 1)
def fTab (X Y : Nat → Int32) (n : Nat) (x : Int32) : Int32 := if n = 0 then 0 else if X 0 < x then (if x < X (n - 1) then fTabL X Y x (n - 2) 0 else Y (n - 1)) else Y 0
def fCuM (K L C : Nat → Int32) : Nat → Nat → Int32 → Int32 | 0, _, _ => 0 | j + 1, i, x => if L i ≤ x then fCuM K L C j (i + 1) (x - L i) else if K i = 0 then 0 else if K i = 1 then C i else C i * x / L i
def fPuM (F V L : Nat → Int32) (x : Int32) : Nat → Int32 | 0 => 0 | k + 1 => if x < F k then fPuM F V L x k + 0 else if F k + L k ≤ x then fPuM F V L x k + 0 else fPuM F V L x k + V k
def fTr (E : Nat → Int32) (b : Int32) : Nat → Nat | 0 => 0 | k + 1 => if b < vX11_amount (E k) then k + 1 else fTr E b k
def fSeR (E : Nat → Int32) (b : Int32) (N : Nat) : Int32 := if fTr E b (N + 1) = N + 1 then -1 else nI (fTr E b (N + 1))
abbrev mX11_pointAt : mM := (yX11_pointAt, cX11_pointAt, 3, (some .int), [])
set_option maxHeartbeats 4000000 in
set_option maxRecDepth 100000 in
theorem gX11_pointAt_0 {G : mG} {w : mH} {Φ : mF} {a0 : Nat} {x1 : Int32}  (k1 : mW G mX11_pointAt 2 0 0 2 [(0, .ref a0), (1, .int x1), (2, .int 0)] [] w Φ) : mW G mX11_pointAt 2 0 0 0 [(0, .ref a0), (1, .int x1)] [] w Φ := by
  refine mW_iconst (v := 0) dX11_pointAt_0 (by decide) ?_
  refine mW_istore_n (lv2 := [(2, .int 0), (0, .ref a0), (1, .int x1)]) dX11_pointAt_1 rfl (by decide) rfl ?_
  refine mW_loc [1, 2, 0] (lv2 := [(0, .ref a0), (1, .int x1), (2, .int 0)]) rfl ?_
  exact k1
set_option maxHeartbeats 4000000 in
set_option maxRecDepth 100000 in
theorem gX11_pointAt_2 {G : mG} {w : mH} {Φ : mF} {a0 : Nat} {x1 x2 : Int32} {a0_1 n_a0_1 : Nat} (h1 : hk w a0 = (11, 0)) (h2 : hfr w a0 1 = some a0_1) (h3 : hk w a0_1 = (16, n_a0_1)) (s1 : vp_in 29 n_a0_1) (s2 : (¬ ((hai w a0_1 29) ≤ x2)) → vp_in (30 + (2 * x2)) n_a0_1) (k1 : ((hai w a0_1 29) ≤ x2) → Φ (.inl (some (.int (-1)))) w) (k2 : (¬ ((hai w a0_1 29) ≤ x2)) → (¬ ((vX11_x w x2 a0_1) = x1)) → mW G mX11_pointAt 2 0 0 2 [(0, .ref a0), (1, .int x1), (2, .int (x2 + 1))] [] w Φ) (k3 : (¬ ((hai w a0_1 29) ≤ x2)) → ((vX11_x w x2 a0_1) = x1) → Φ (.inl (some (.int x2))) w) : mW G mX11_pointAt 2 0 0 2 [(0, .ref a0), (1, .int x1), (2, .int x2)] [] w Φ := by
  refine mW_iload_n (j := 2) dX11_pointAt_2 rfl rfl ?_
  refine mW_aload_n (j := 0) dX11_pointAt_3 rfl rfl ?_
  refine mW_callVe (As := []) (rest := [.int x2]) (kc2 := 0) (ks2 := 0) dX11_pointAt_4 l_X11_99 rfl h1 rfl (by decide) (qX11_points (w := w) (a0 := a0) h1 h2 h3 s1) (Nat.le_of_ble_eq_true rfl) (by decide) rfl rfl ?_
  refine mW_icmp_ge (tgt := 27) dX11_pointAt_7 (by decide) (fun c1 => ?_) (fun c1 => ?_)
  · refine mW_iconst (v := (-1)) dX11_pointAt_27 (by decide) ?_
    exact mW_iret dX11_pointAt_28 rfl (k1 c1)
  · refine mW_aload_n (j := 0) dX11_pointAt_10 rfl rfl ?_
    refine mW_iload_n (j := 2) dX11_pointAt_11 rfl rfl ?_
    refine mW_callVe (As := [.int x2]) (rest := []) (kc2 := 0) (ks2 := 0) dX11_pointAt_12 l_X11_103 rfl h1 rfl (by decide) (qX11_x (w := w) (a0 := a0) (x1 := x2) h1 h2 h3 (s2 c1)) (Nat.le_of_ble_eq_true rfl) (by decide) rfl rfl ?_
    refine mW_iload_n (j := 1) dX11_pointAt_15 rfl rfl ?_
    refine mW_icmp_ne (tgt := 21) dX11_pointAt_16 (by decide) (fun c2 => ?_) (fun c2 => ?_)
    · refine mW_iinc (j := 2) (v := x2 + 1) (lv2 := [(2, .int (x2 + 1)), (0, .ref a0), (1, .int x1)]) dX11_pointAt_21 rfl rfl (by decide) rfl ?_
      refine mW_goto (tgt := 2) dX11_pointAt_24 (by decide) ?_
      refine mW_loc [1, 2, 0] (lv2 := [(0, .ref a0), (1, .int x1), (2, .int (x2 + 1))]) rfl ?_
      exact k2 c1 c2
    · refine mW_iload_n (j := 2) dX11_pointAt_19 rfl rfl ?_
      exact mW_iret dX11_pointAt_20 rfl (k3 c1 c2)
abbrev mX11_tabled : mM := (yX11_tabled, cX11_tabled, 4, (some .int), [])
set_option maxHeartbeats 4000000 in
set_option maxRecDepth 100000 in
theorem gX11_tabled_0 {G : mG} {w : mH} {Φ : mF} {a0 : Nat} {x1 : Int32} {a0_1 n_a0_1 : Nat} (h1 : hk w a0 = (11, 0)) (h2 : hfr w a0 1 = some a0_1) (h3 : hk w a0_1 = (16, n_a0_1)) (s1 : vp_in 29 n_a0_1) (s2 : (¬ ((hai w a0_1 29) = 0)) → vp_in (30 + (2 * 0)) n_a0_1) (s3 : (¬ ((hai w a0_1 29) = 0)) → ((vX11_x w 0 a0_1) < x1) → vp_in (30 + (2 * ((hai w a0_1 29) - 1))) n_a0_1) (s4 : (¬ ((hai w a0_1 29) = 0)) → ((vX11_x w 0 a0_1) < x1) → (¬ (x1 < (vX11_x w ((hai w a0_1 29) - 1) a0_1))) → vp_in ((30 + (2 * ((hai w a0_1 29) - 1))) + 1) n_a0_1) (s5 : (¬ ((hai w a0_1 29) = 0)) → (¬ ((vX11_x w 0 a0_1) < x1)) → vp_in ((30 + (2 * 0)) + 1) n_a0_1) (k1 : (¬ ((hai w a0_1 29) = 0)) → ((vX11_x w 0 a0_1) < x1) → (x1 < (vX11_x w ((hai w a0_1 29) - 1) a0_1)) → mW G mX11_tabled 2 0 0 47 [(0, .ref a0), (1, .int x1), (2, .int (hai w a0_1 29)), (3, .int 0)] [] w Φ) (k2 : (¬ ((hai w a0_1 29) = 0)) → ((vX11_x w 0 a0_1) < x1) → (¬ (x1 < (vX11_x w ((hai w a0_1 29) - 1) a0_1))) → Φ (.inl (some (.int (vX11_y w ((hai w a0_1 29) - 1) a0_1)))) w) (k3 : (¬ ((hai w a0_1 29) = 0)) → (¬ ((vX11_x w 0 a0_1) < x1)) → Φ (.inl (some (.int (vX11_y w 0 a0_1)))) w) (k4 : ((hai w a0_1 29) = 0) → Φ (.inl (some (.int 0))) w) : mW G mX11_tabled 2 0 0 0 [(0, .ref a0), (1, .int x1)] [] w Φ := by
  refine mW_aload_n (j := 0) dX11_tabled_0 rfl rfl ?_
  refine mW_callVe (As := []) (rest := []) (kc2 := 0) (ks2 := 0) dX11_tabled_1 l_X11_99 rfl h1 rfl (by decide) (qX11_points (w := w) (a0 := a0) h1 h2 h3 s1) (Nat.le_of_ble_eq_true rfl) (by decide) rfl rfl ?_
  refine mW_istore_n (lv2 := [(2, .int (hai w a0_1 29)), (0, .ref a0), (1, .int x1)]) dX11_tabled_4 rfl (by decide) rfl ?_
  refine mW_iload_n (j := 0) dX11_tabled_5 rfl rfl ?_
  refine mW_if_ne (tgt := 11) dX11_tabled_6 (by decide) (fun c1 => ?_) (fun c1 => ?_)
  · refine mW_iload_n (j := 2) dX11_tabled_11 rfl rfl ?_
    refine mW_aload_n (j := 1) dX11_tabled_12 rfl rfl ?_
    refine mW_iconst (v := 0) dX11_tabled_13 (by decide) ?_
    refine mW_callVe (As := [.int 0]) (rest := [.int x1]) (kc2 := 0) (ks2 := 0) dX11_tabled_14 l_X11_103 rfl h1 rfl (by decide) (qX11_x (w := w) (a0 := a0) (x1 := 0) h1 h2 h3 (s2 c1)) (Nat.le_of_ble_eq_true rfl) (by decide) rfl rfl ?_
    refine mW_icmp_gt (tgt := 26) dX11_tabled_17 (by decide) (fun c2 => ?_) (fun c2 => ?_)
    · refine mW_iload_n (j := 2) dX11_tabled_26 rfl rfl ?_
      refine mW_aload_n (j := 1) dX11_tabled_27 rfl rfl ?_
      refine mW_iload_n (j := 0) dX11_tabled_28 rfl rfl ?_
      refine mW_iconst (v := 1) dX11_tabled_29 (by decide) ?_
      refine mW_isub dX11_tabled_30 ?_
      refine mW_callVe (As := [.int ((hai w a0_1 29) - 1)]) (rest := [.int x1]) (kc2 := 0) (ks2 := 0) dX11_tabled_31 l_X11_103 rfl h1 rfl (by decide) (qX11_x (w := w) (a0 := a0) (x1 := (hai w a0_1 29) - 1) h1 h2 h3 (s3 c1 c2)) (Nat.le_of_ble_eq_true rfl) (by decide) rfl rfl ?_
      refine mW_icmp_lt (tgt := 45) dX11_tabled_34 (by decide) (fun c3 => ?_) (fun c3 => ?_)
      · refine mW_iconst (v := 0) dX11_tabled_45 (by decide) ?_
        refine mW_istore_n (lv2 := [(3, .int 0), (2, .int (hai w a0_1 29)), (0, .ref a0), (1, .int x1)]) dX11_tabled_46 rfl (by decide) rfl ?_
        refine mW_loc [2, 3, 1, 0] (lv2 := [(0, .ref a0), (1, .int x1), (2, .int (hai w a0_1 29)), (3, .int 0)]) rfl ?_
        exact k1 c1 c2 c3
      · refine mW_aload_n (j := 1) dX11_tabled_37 rfl rfl ?_
        refine mW_iload_n (j := 0) dX11_tabled_38 rfl rfl ?_
        refine mW_iconst (v := 1) dX11_tabled_39 (by decide) ?_
        refine mW_isub dX11_tabled_40 ?_
        refine mW_callVe (As := [.int ((hai w a0_1 29) - 1)]) (rest := []) (kc2 := 0) (ks2 := 0) dX11_tabled_41 l_X11_118 rfl h1 rfl (by decide) (qX11_y (w := w) (a0 := a0) (x1 := (hai w a0_1 29) - 1) h1 h2 h3 (s4 c1 c2 c3)) (Nat.le_of_ble_eq_true rfl) (by decide) rfl rfl ?_
        exact mW_iret dX11_tabled_44 rfl (k2 c1 c2 c3)
    · refine mW_aload_n (j := 1) dX11_tabled_20 rfl rfl ?_
      refine mW_iconst (v := 0) dX11_tabled_21 (by decide) ?_
      refine mW_callVe (As := [.int 0]) (rest := []) (kc2 := 0) (ks2 := 0) dX11_tabled_22 l_X11_118 rfl h1 rfl (by decide) (qX11_y (w := w) (a0 := a0) (x1 := 0) h1 h2 h3 (s5 c1 c2)) (Nat.le_of_ble_eq_true rfl) (by decide) rfl rfl ?_
      exact mW_iret dX11_tabled_25 rfl (k3 c1 c2)
  · refine mW_iconst (v := 0) dX11_tabled_9 (by decide) ?_
    exact mW_iret dX11_tabled_10 rfl (k4 c1)
set_option maxHeartbeats 4000000 in
set_option maxRecDepth 100000 in
theorem gX11_tabled_47 {G : mG} {w : mH} {Φ : mF} {a0 : Nat} {x1 x2 x3 : Int32} {a0_1 n_a0_1 : Nat} (h1 : hk w a0 = (11, 0)) (h2 : hfr w a0 1 = some a0_1) (h3 : hk w a0_1 = (16, n_a0_1)) (s1 : vp_in (30 + (2 * (x3 + 1))) n_a0_1) (s2 : (x1 < (vX11_x w (x3 + 1) a0_1)) → vp_in ((30 + (2 * x3)) + 1) n_a0_1) (s3 : (x1 < (vX11_x w (x3 + 1) a0_1)) → vp_in ((30 + (2 * (x3 + 1))) + 1) n_a0_1) (s4 : (x1 < (vX11_x w (x3 + 1) a0_1)) → vp_in (30 + (2 * x3)) n_a0_1) (s5 : (x1 < (vX11_x w (x3 + 1) a0_1)) → ¬ ((vX11_x w (x3 + 1) a0_1) - (vX11_x w x3 a0_1)) = 0) (k1 : (x1 < (vX11_x w (x3 + 1) a0_1)) → Φ (.inl (some (.int ((vX11_y w x3 a0_1) + ((((vX11_y w (x3 + 1) a0_1) - (vX11_y w x3 a0_1)) * (x1 - (vX11_x w x3 a0_1))) / ((vX11_x w (x3 + 1) a0_1) - (vX11_x w x3 a0_1))))))) w) (k2 : (¬ (x1 < (vX11_x w (x3 + 1) a0_1))) → mW G mX11_tabled 2 0 0 47 [(0, .ref a0), (1, .int x1), (2, .int x2), (3, .int (x3 + 1))] [] w Φ) : mW G mX11_tabled 2 0 0 47 [(0, .ref a0), (1, .int x1), (2, .int x2), (3, .int x3)] [] w Φ := by
  refine mW_aload_n (j := 0) dX11_tabled_47 rfl rfl ?_
  refine mW_iload_n (j := 3) dX11_tabled_48 rfl rfl ?_
  refine mW_iconst (v := 1) dX11_tabled_49 (by decide) ?_
  refine mW_iadd dX11_tabled_50 ?_
  refine mW_callVe (As := [.int (x3 + 1)]) (rest := []) (kc2 := 0) (ks2 := 0) dX11_tabled_51 l_X11_103 rfl h1 rfl (by decide) (qX11_x (w := w) (a0 := a0) (x1 := x3 + 1) h1 h2 h3 s1) (Nat.le_of_ble_eq_true rfl) (by decide) rfl rfl ?_
  refine mW_iload_n (j := 1) dX11_tabled_54 rfl rfl ?_
  refine mW_icmp_gt (tgt := 64) dX11_tabled_55 (by decide) (fun c1 => ?_) (fun c1 => ?_)
  · refine mW_aload_n (j := 0) dX11_tabled_64 rfl rfl ?_
    refine mW_iload_n (j := 3) dX11_tabled_65 rfl rfl ?_
    refine mW_callVe (As := [.int x3]) (rest := []) (kc2 := 0) (ks2 := 0) dX11_tabled_66 l_X11_118 rfl h1 rfl (by decide) (qX11_y (w := w) (a0 := a0) (x1 := x3) h1 h2 h3 (s2 c1)) (Nat.le_of_ble_eq_true rfl) (by decide) rfl rfl ?_
    refine mW_aload_n (j := 0) dX11_tabled_69 rfl rfl ?_
    refine mW_iload_n (j := 3) dX11_tabled_70 rfl rfl ?_
    refine mW_iconst (v := 1) dX11_tabled_71 (by decide) ?_
    refine mW_iadd dX11_tabled_72 ?_
    refine mW_callVe (As := [.int (x3 + 1)]) (rest := [.int (vX11_y w x3 a0_1)]) (kc2 := 0) (ks2 := 0) dX11_tabled_73 l_X11_118 rfl h1 rfl (by decide) (qX11_y (w := w) (a0 := a0) (x1 := x3 + 1) h1 h2 h3 (s3 c1)) (Nat.le_of_ble_eq_true rfl) (by decide) rfl rfl ?_
    refine mW_aload_n (j := 0) dX11_tabled_76 rfl rfl ?_
    refine mW_iload_n (j := 3) dX11_tabled_77 rfl rfl ?_
    refine mW_callVe (As := [.int x3]) (rest := [.int (vX11_y w (x3 + 1) a0_1), .int (vX11_y w x3 a0_1)]) (kc2 := 0) (ks2 := 0) dX11_tabled_78 l_X11_118 rfl h1 rfl (by decide) (qX11_y (w := w) (a0 := a0) (x1 := x3) h1 h2 h3 (s2 c1)) (Nat.le_of_ble_eq_true rfl) (by decide) rfl rfl ?_
    refine mW_isub dX11_tabled_81 ?_
    refine mW_iload_n (j := 1) dX11_tabled_82 rfl rfl ?_
    refine mW_aload_n (j := 0) dX11_tabled_83 rfl rfl ?_
    refine mW_iload_n (j := 3) dX11_tabled_84 rfl rfl ?_
    refine mW_callVe (As := [.int x3]) (rest := [.int x1, .int ((vX11_y w (x3 + 1) a0_1) - (vX11_y w x3 a0_1)), .int (vX11_y w x3 a0_1)]) (kc2 := 0) (ks2 := 0) dX11_tabled_85 l_X11_103 rfl h1 rfl (by decide) (qX11_x (w := w) (a0 := a0) (x1 := x3) h1 h2 h3 (s4 c1)) (Nat.le_of_ble_eq_true rfl) (by decide) rfl rfl ?_
    refine mW_isub dX11_tabled_88 ?_
    refine mW_imul dX11_tabled_89 ?_
    refine mW_aload_n (j := 0) dX11_tabled_90 rfl rfl ?_
    refine mW_iload_n (j := 3) dX11_tabled_91 rfl rfl ?_
    refine mW_iconst (v := 1) dX11_tabled_92 (by decide) ?_
    refine mW_iadd dX11_tabled_93 ?_
    refine mW_callVe (As := [.int (x3 + 1)]) (rest := [.int (((vX11_y w (x3 + 1) a0_1) - (vX11_y w x3 a0_1)) * (x1 - (vX11_x w x3 a0_1))), .int (vX11_y w x3 a0_1)]) (kc2 := 0) (ks2 := 0) dX11_tabled_94 l_X11_103 rfl h1 rfl (by decide) (qX11_x (w := w) (a0 := a0) (x1 := x3 + 1) h1 h2 h3 s1) (Nat.le_of_ble_eq_true rfl) (by decide) rfl rfl ?_
    refine mW_aload_n (j := 0) dX11_tabled_97 rfl rfl ?_
    refine mW_iload_n (j := 3) dX11_tabled_98 rfl rfl ?_
    refine mW_callVe (As := [.int x3]) (rest := [.int (vX11_x w (x3 + 1) a0_1), .int (((vX11_y w (x3 + 1) a0_1) - (vX11_y w x3 a0_1)) * (x1 - (vX11_x w x3 a0_1))), .int (vX11_y w x3 a0_1)]) (kc2 := 0) (ks2 := 0) dX11_tabled_99 l_X11_103 rfl h1 rfl (by decide) (qX11_x (w := w) (a0 := a0) (x1 := x3) h1 h2 h3 (s4 c1)) (Nat.le_of_ble_eq_true rfl) (by decide) rfl rfl ?_
    refine mW_isub dX11_tabled_102 ?_
    refine mW_idiv dX11_tabled_103 (s5 c1) ?_
    refine mW_iadd dX11_tabled_104 ?_
    exact mW_iret dX11_tabled_105 rfl (k1 c1)
  · refine mW_iinc (j := 3) (v := x3 + 1) (lv2 := [(3, .int (x3 + 1)), (0, .ref a0), (1, .int x1), (2, .int x2)]) dX11_tabled_58 rfl rfl (by decide) rfl ?_
    refine mW_goto (tgt := 47) dX11_tabled_61 (by decide) ?_
    refine mW_loc [1, 2, 3, 0] (lv2 := [(0, .ref a0), (1, .int x1), (2, .int x2), (3, .int (x3 + 1))]) rfl ?_
    exact k2 c1
abbrev mX11_curved : mM := (yX11_curved, cX11_curved, 5, (some .int), [])
set_option maxHeartbeats 4000000 in
set_option maxRecDepth 100000 in
theorem gX11_curved_0 {G : mG} {w : mH} {Φ : mF} {a0 : Nat} {x1 : Int32}  (k1 : mW G mX11_curved 1 0 0 4 [(0, .ref a0), (1, .int x1), (2, .int x1), (3, .int 0)] [] w Φ) : mW G mX11_curved 1 0 0 0 [(0, .ref a0), (1, .int x1)] [] w Φ := by
  refine mW_iload_n (j := 1) dX11_curved_0 rfl rfl ?_
  refine mW_istore_n (lv2 := [(2, .int x1), (0, .ref a0), (1, .int x1)]) dX11_curved_1 rfl (by decide) rfl ?_
  refine mW_iconst (v := 0) dX11_curved_2 (by decide) ?_
  refine mW_istore_n (lv2 := [(3, .int 0), (2, .int x1), (0, .ref a0), (1, .int x1)]) dX11_curved_3 rfl (by decide) rfl ?_
  refine mW_loc [2, 3, 1, 0] (lv2 := [(0, .ref a0), (1, .int x1), (2, .int x1), (3, .int 0)]) rfl ?_
  exact k1
set_option maxHeartbeats 4000000 in
set_option maxRecDepth 100000 in
theorem gX11_curved_4 {G : mG} {w : mH} {Φ : mF} {a0 : Nat} {x1 x2 x3 : Int32} {a0_1 n_a0_1 : Nat} (h1 : hk w a0 = (11, 0)) (h2 : hfr w a0 1 = some a0_1) (h3 : hk w a0_1 = (16, n_a0_1)) (s1 : vp_in 40 n_a0_1) (s2 : (¬ ((hai w a0_1 40) ≤ x3)) → vp_in ((41 + (3 * x3)) + 1) n_a0_1) (s3 : (¬ ((hai w a0_1 40) ≤ x3)) → (¬ ((hai w a0_1 (((41 + (3 * x3)) + 1).toNatClampNeg)) ≤ x2)) → vp_in (41 + (3 * x3)) n_a0_1) (s4 : (¬ ((hai w a0_1 40) ≤ x3)) → (¬ ((hai w a0_1 (((41 + (3 * x3)) + 1).toNatClampNeg)) ≤ x2)) → (¬ ((hai w a0_1 ((41 + (3 * x3)).toNatClampNeg)) = 0)) → (¬ ((hai w a0_1 ((41 + (3 * x3)).toNatClampNeg)) = 1)) → vp_in ((41 + (3 * x3)) + 2) n_a0_1) (s5 : (¬ ((hai w a0_1 40) ≤ x3)) → (¬ ((hai w a0_1 (((41 + (3 * x3)) + 1).toNatClampNeg)) ≤ x2)) → (¬ ((hai w a0_1 ((41 + (3 * x3)).toNatClampNeg)) = 0)) → (¬ ((hai w a0_1 ((41 + (3 * x3)).toNatClampNeg)) = 1)) → ¬ (hai w a0_1 (((41 + (3 * x3)) + 1).toNatClampNeg)) = 0) (s6 : (¬ ((hai w a0_1 40) ≤ x3)) → (¬ ((hai w a0_1 (((41 + (3 * x3)) + 1).toNatClampNeg)) ≤ x2)) → (¬ ((hai w a0_1 ((41 + (3 * x3)).toNatClampNeg)) = 0)) → ((hai w a0_1 ((41 + (3 * x3)).toNatClampNeg)) = 1) → vp_in ((41 + (3 * x3)) + 2) n_a0_1) (k1 : ((hai w a0_1 40) ≤ x3) → Φ (.inl (some (.int 0))) w) (k2 : (¬ ((hai w a0_1 40) ≤ x3)) → ((hai w a0_1 (((41 + (3 * x3)) + 1).toNatClampNeg)) ≤ x2) → mW G mX11_curved 1 0 0 4 [(0, .ref a0), (1, .int x1), (2, .int (x2 - (hai w a0_1 (((41 + (3 * x3)) + 1).toNatClampNeg)))), (3, .int (x3 + 1))] [] w Φ) (k3 : (¬ ((hai w a0_1 40) ≤ x3)) → (¬ ((hai w a0_1 (((41 + (3 * x3)) + 1).toNatClampNeg)) ≤ x2)) → (¬ ((hai w a0_1 ((41 + (3 * x3)).toNatClampNeg)) = 0)) → (¬ ((hai w a0_1 ((41 + (3 * x3)).toNatClampNeg)) = 1)) → Φ (.inl (some (.int (((hai w a0_1 (((41 + (3 * x3)) + 2).toNatClampNeg)) * x2) / (hai w a0_1 (((41 + (3 * x3)) + 1).toNatClampNeg)))))) w) (k4 : (¬ ((hai w a0_1 40) ≤ x3)) → (¬ ((hai w a0_1 (((41 + (3 * x3)) + 1).toNatClampNeg)) ≤ x2)) → (¬ ((hai w a0_1 ((41 + (3 * x3)).toNatClampNeg)) = 0)) → ((hai w a0_1 ((41 + (3 * x3)).toNatClampNeg)) = 1) → Φ (.inl (some (.int (hai w a0_1 (((41 + (3 * x3)) + 2).toNatClampNeg))))) w) (k5 : (¬ ((hai w a0_1 40) ≤ x3)) → (¬ ((hai w a0_1 (((41 + (3 * x3)) + 1).toNatClampNeg)) ≤ x2)) → ((hai w a0_1 ((41 + (3 * x3)).toNatClampNeg)) = 0) → Φ (.inl (some (.int 0))) w) : mW G mX11_curved 1 0 0 4 [(0, .ref a0), (1, .int x1), (2, .int x2), (3, .int x3)] [] w Φ := by
  refine mW_iload_n (j := 3) dX11_curved_4 rfl rfl ?_
  refine mW_aload_n (j := 0) dX11_curved_5 rfl rfl ?_
  refine mW_getR dX11_curved_6 f_X11_13 h1 rfl h2 ?_
  refine mW_bipush (v := 40) dX11_curved_9 (by decide) ?_
  refine mW_ialdJ dX11_curved_11 h3 s1 (j := 40) (by decide) ?_
  refine mW_icmp_ge (tgt := 113) dX11_curved_12 (by decide) (fun c1 => ?_) (fun c1 => ?_)
  · refine mW_iconst (v := 0) dX11_curved_113 (by decide) ?_
    exact mW_iret dX11_curved_114 rfl (k1 c1)
  · refine mW_bipush (v := 41) dX11_curved_15 (by decide) ?_
    refine mW_iconst (v := 3) dX11_curved_17 (by decide) ?_
    refine mW_iload_n (j := 3) dX11_curved_18 rfl rfl ?_
    refine mW_imul dX11_curved_19 ?_
    refine mW_iadd dX11_curved_20 ?_
    refine mW_istore (lv2 := [(4, .int (41 + (3 * x3))), (0, .ref a0), (1, .int x1), (2, .int x2), (3, .int x3)]) dX11_curved_21 (by decide) rfl ?_
    refine mW_iload_n (j := 3) dX11_curved_23 rfl rfl ?_
    refine mW_aload_n (j := 1) dX11_curved_24 rfl rfl ?_
    refine mW_getR dX11_curved_25 f_X11_13 h1 rfl h2 ?_
    refine mW_iload (j := 0) dX11_curved_28 rfl ?_
    refine mW_iconst (v := 1) dX11_curved_30 (by decide) ?_
    refine mW_iadd dX11_curved_31 ?_
    refine mW_ialdJ dX11_curved_32 h3 (s2 c1) rfl ?_
    refine mW_icmp_ge (tgt := 95) dX11_curved_33 (by decide) (fun c2 => ?_) (fun c2 => ?_)
    · refine mW_iload_n (j := 3) dX11_curved_95 rfl rfl ?_
      refine mW_aload_n (j := 1) dX11_curved_96 rfl rfl ?_
      refine mW_getR dX11_curved_97 f_X11_13 h1 rfl h2 ?_
      refine mW_iload (j := 0) dX11_curved_100 rfl ?_
      refine mW_iconst (v := 1) dX11_curved_102 (by decide) ?_
      refine mW_iadd dX11_curved_103 ?_
      refine mW_ialdJ dX11_curved_104 h3 (s2 c1) rfl ?_
      refine mW_isub dX11_curved_105 ?_
      refine mW_istore_n (lv2 := [(2, .int (x2 - (hai w a0_1 (((41 + (3 * x3)) + 1).toNatClampNeg)))), (4, .int (41 + (3 * x3))), (0, .ref a0), (1, .int x1), (3, .int x3)]) dX11_curved_106 rfl (by decide) rfl ?_
      refine mW_iinc (j := 4) (v := x3 + 1) (lv2 := [(3, .int (x3 + 1)), (2, .int (x2 - (hai w a0_1 (((41 + (3 * x3)) + 1).toNatClampNeg)))), (4, .int (41 + (3 * x3))), (0, .ref a0), (1, .int x1)]) dX11_curved_107 rfl rfl (by decide) rfl ?_
      refine mW_goto (tgt := 4) dX11_curved_110 (by decide) ?_
      refine mW_loc [3, 4, 1, 0] (lv2 := [(0, .ref a0), (1, .int x1), (2, .int (x2 - (hai w a0_1 (((41 + (3 * x3)) + 1).toNatClampNeg)))), (3, .int (x3 + 1))]) rfl ?_
      exact k2 c1 c2
    · refine mW_aload_n (j := 1) dX11_curved_36 rfl rfl ?_
      refine mW_getR dX11_curved_37 f_X11_13 h1 rfl h2 ?_
      refine mW_iload (j := 0) dX11_curved_40 rfl ?_
      refine mW_ialdJ dX11_curved_42 h3 (s3 c1 c2) rfl ?_
      refine mW_if_ne (tgt := 50) dX11_curved_43 (by decide) (fun c3 => ?_) (fun c3 => ?_)
      · refine mW_aload_n (j := 1) dX11_curved_50 rfl rfl ?_
        refine mW_getR dX11_curved_51 f_X11_13 h1 rfl h2 ?_
        refine mW_iload (j := 0) dX11_curved_54 rfl ?_
        refine mW_ialdJ dX11_curved_56 h3 (s3 c1 c2) rfl ?_
        refine mW_iconst (v := 1) dX11_curved_57 (by decide) ?_
        refine mW_icmp_ne (tgt := 73) dX11_curved_58 (by decide) (fun c4 => ?_) (fun c4 => ?_)
        · refine mW_aload_n (j := 1) dX11_curved_73 rfl rfl ?_
          refine mW_getR dX11_curved_74 f_X11_13 h1 rfl h2 ?_
          refine mW_iload (j := 0) dX11_curved_77 rfl ?_
          refine mW_iconst (v := 2) dX11_curved_79 (by decide) ?_
          refine mW_iadd dX11_curved_80 ?_
          refine mW_ialdJ dX11_curved_81 h3 (s4 c1 c2 c3 c4) rfl ?_
          refine mW_iload_n (j := 3) dX11_curved_82 rfl rfl ?_
          refine mW_imul dX11_curved_83 ?_
          refine mW_aload_n (j := 1) dX11_curved_84 rfl rfl ?_
          refine mW_getR dX11_curved_85 f_X11_13 h1 rfl h2 ?_
          refine mW_iload (j := 0) dX11_curved_88 rfl ?_
          refine mW_iconst (v := 1) dX11_curved_90 (by decide) ?_
          refine mW_iadd dX11_curved_91 ?_
          refine mW_ialdJ dX11_curved_92 h3 (s2 c1) rfl ?_
          refine mW_idiv dX11_curved_93 (s5 c1 c2 c3 c4) ?_
          exact mW_iret dX11_curved_94 rfl (k3 c1 c2 c3 c4)
        · refine mW_aload_n (j := 1) dX11_curved_61 rfl rfl ?_
          refine mW_getR dX11_curved_62 f_X11_13 h1 rfl h2 ?_
          refine mW_iload (j := 0) dX11_curved_65 rfl ?_
          refine mW_iconst (v := 2) dX11_curved_67 (by decide) ?_
          refine mW_iadd dX11_curved_68 ?_
          refine mW_ialdJ dX11_curved_69 h3 (s6 c1 c2 c3 c4) rfl ?_
          refine mW_goto (tgt := 94) dX11_curved_70 (by decide) ?_
          exact mW_iret dX11_curved_94 rfl (k4 c1 c2 c3 c4)
      · refine mW_iconst (v := 0) dX11_curved_46 (by decide) ?_
        refine mW_goto (tgt := 94) dX11_curved_47 (by decide) ?_
        exact mW_iret dX11_curved_94 rfl (k5 c1 c2 c3)
abbrev mX11_pushed : mM := (yX11_pushed, cX11_pushed, 5, (some .int), [])
set_option maxHeartbeats 4000000 in
set_option maxRecDepth 100000 in
theorem gX11_pushed_0 {G : mG} {w : mH} {Φ : mF} {a0 : Nat} {x1 : Int32}  (k1 : mW G mX11_pushed 1 0 0 4 [(0, .ref a0), (1, .int x1), (2, .int 0), (3, .int 0)] [] w Φ) : mW G mX11_pushed 1 0 0 0 [(0, .ref a0), (1, .int x1)] [] w Φ := by
  refine mW_iconst (v := 0) dX11_pushed_0 (by decide) ?_
  refine mW_istore_n (lv2 := [(2, .int 0), (0, .ref a0), (1, .int x1)]) dX11_pushed_1 rfl (by decide) rfl ?_
  refine mW_iconst (v := 0) dX11_pushed_2 (by decide) ?_
  refine mW_istore_n (lv2 := [(3, .int 0), (2, .int 0), (0, .ref a0), (1, .int x1)]) dX11_pushed_3 rfl (by decide) rfl ?_
  refine mW_loc [2, 3, 1, 0] (lv2 := [(0, .ref a0), (1, .int x1), (2, .int 0), (3, .int 0)]) rfl ?_
  exact k1
set_option maxHeartbeats 4000000 in
set_option maxRecDepth 100000 in
theorem gX11_pushed_4 {G : mG} {w : mH} {Φ : mF} {a0 : Nat} {x1 x2 x3 : Int32} {a0_1 n_a0_1 : Nat} (h1 : hk w a0 = (11, 0)) (h2 : hfr w a0 1 = some a0_1) (h3 : hk w a0_1 = (16, n_a0_1)) (s1 : vp_in 65 n_a0_1) (s2 : (¬ ((hai w a0_1 65) ≤ x3)) → vp_in (66 + (3 * x3)) n_a0_1) (s3 : (¬ ((hai w a0_1 65) ≤ x3)) → (¬ (x1 < (hai w a0_1 ((66 + (3 * x3)).toNatClampNeg)))) → vp_in ((66 + (3 * x3)) + 2) n_a0_1) (s4 : (¬ ((hai w a0_1 65) ≤ x3)) → (¬ (x1 < (hai w a0_1 ((66 + (3 * x3)).toNatClampNeg)))) → (¬ (((hai w a0_1 ((66 + (3 * x3)).toNatClampNeg)) + (hai w a0_1 (((66 + (3 * x3)) + 2).toNatClampNeg))) ≤ x1)) → vp_in ((66 + (3 * x3)) + 1) n_a0_1) (k1 : ((hai w a0_1 65) ≤ x3) → Φ (.inl (some (.int x2))) w) (k2 : (¬ ((hai w a0_1 65) ≤ x3)) → (x1 < (hai w a0_1 ((66 + (3 * x3)).toNatClampNeg))) → mW G mX11_pushed 1 0 0 4 [(0, .ref a0), (1, .int x1), (2, .int (x2 + 0)), (3, .int (x3 + 1))] [] w Φ) (k3 : (¬ ((hai w a0_1 65) ≤ x3)) → (¬ (x1 < (hai w a0_1 ((66 + (3 * x3)).toNatClampNeg)))) → (((hai w a0_1 ((66 + (3 * x3)).toNatClampNeg)) + (hai w a0_1 (((66 + (3 * x3)) + 2).toNatClampNeg))) ≤ x1) → mW G mX11_pushed 1 0 0 4 [(0, .ref a0), (1, .int x1), (2, .int (x2 + 0)), (3, .int (x3 + 1))] [] w Φ) (k4 : (¬ ((hai w a0_1 65) ≤ x3)) → (¬ (x1 < (hai w a0_1 ((66 + (3 * x3)).toNatClampNeg)))) → (¬ (((hai w a0_1 ((66 + (3 * x3)).toNatClampNeg)) + (hai w a0_1 (((66 + (3 * x3)) + 2).toNatClampNeg))) ≤ x1)) → mW G mX11_pushed 1 0 0 4 [(0, .ref a0), (1, .int x1), (2, .int (x2 + (hai w a0_1 (((66 + (3 * x3)) + 1).toNatClampNeg)))), (3, .int (x3 + 1))] [] w Φ) : mW G mX11_pushed 1 0 0 4 [(0, .ref a0), (1, .int x1), (2, .int x2), (3, .int x3)] [] w Φ := by
  refine mW_iload_n (j := 3) dX11_pushed_4 rfl rfl ?_
  refine mW_aload_n (j := 0) dX11_pushed_5 rfl rfl ?_
  refine mW_getR dX11_pushed_6 f_X11_13 h1 rfl h2 ?_
  refine mW_bipush (v := 65) dX11_pushed_9 (by decide) ?_
  refine mW_ialdJ dX11_pushed_11 h3 s1 (j := 65) (by decide) ?_
  refine mW_icmp_ge (tgt := 77) dX11_pushed_12 (by decide) (fun c1 => ?_) (fun c1 => ?_)
  · refine mW_iload_n (j := 2) dX11_pushed_77 rfl rfl ?_
    exact mW_iret dX11_pushed_78 rfl (k1 c1)
  · refine mW_bipush (v := 66) dX11_pushed_15 (by decide) ?_
    refine mW_iconst (v := 3) dX11_pushed_17 (by decide) ?_
    refine mW_iload_n (j := 3) dX11_pushed_18 rfl rfl ?_
    refine mW_imul dX11_pushed_19 ?_
    refine mW_iadd dX11_pushed_20 ?_
    refine mW_istore (lv2 := [(4, .int (66 + (3 * x3))), (0, .ref a0), (1, .int x1), (2, .int x2), (3, .int x3)]) dX11_pushed_21 (by decide) rfl ?_
    refine mW_iload_n (j := 3) dX11_pushed_23 rfl rfl ?_
    refine mW_iload_n (j := 2) dX11_pushed_24 rfl rfl ?_
    refine mW_aload_n (j := 1) dX11_pushed_25 rfl rfl ?_
    refine mW_getR dX11_pushed_26 f_X11_13 h1 rfl h2 ?_
    refine mW_iload (j := 0) dX11_pushed_29 rfl ?_
    refine mW_ialdJ dX11_pushed_31 h3 (s2 c1) rfl ?_
    refine mW_icmp_lt (tgt := 68) dX11_pushed_32 (by decide) (fun c2 => ?_) (fun c2 => ?_)
    · refine mW_iconst (v := 0) dX11_pushed_68 (by decide) ?_
      refine mW_iadd dX11_pushed_69 ?_
      refine mW_istore_n (lv2 := [(2, .int (x2 + 0)), (4, .int (66 + (3 * x3))), (0, .ref a0), (1, .int x1), (3, .int x3)]) dX11_pushed_70 rfl (by decide) rfl ?_
      refine mW_iinc (j := 4) (v := x3 + 1) (lv2 := [(3, .int (x3 + 1)), (2, .int (x2 + 0)), (4, .int (66 + (3 * x3))), (0, .ref a0), (1, .int x1)]) dX11_pushed_71 rfl rfl (by decide) rfl ?_
      refine mW_goto (tgt := 4) dX11_pushed_74 (by decide) ?_
      refine mW_loc [3, 4, 1, 0] (lv2 := [(0, .ref a0), (1, .int x1), (2, .int (x2 + 0)), (3, .int (x3 + 1))]) rfl ?_
      exact k2 c1 c2
    · refine mW_iload_n (j := 2) dX11_pushed_35 rfl rfl ?_
      refine mW_aload_n (j := 1) dX11_pushed_36 rfl rfl ?_
      refine mW_getR dX11_pushed_37 f_X11_13 h1 rfl h2 ?_
      refine mW_iload (j := 0) dX11_pushed_40 rfl ?_
      refine mW_ialdJ dX11_pushed_42 h3 (s2 c1) rfl ?_
      refine mW_aload_n (j := 1) dX11_pushed_43 rfl rfl ?_
      refine mW_getR dX11_pushed_44 f_X11_13 h1 rfl h2 ?_
      refine mW_iload (j := 0) dX11_pushed_47 rfl ?_
      refine mW_iconst (v := 2) dX11_pushed_49 (by decide) ?_
      refine mW_iadd dX11_pushed_50 ?_
      refine mW_ialdJ dX11_pushed_51 h3 (s3 c1 c2) rfl ?_
      refine mW_iadd dX11_pushed_52 ?_
      refine mW_icmp_ge (tgt := 68) dX11_pushed_53 (by decide) (fun c3 => ?_) (fun c3 => ?_)
      · refine mW_iconst (v := 0) dX11_pushed_68 (by decide) ?_
        refine mW_iadd dX11_pushed_69 ?_
        refine mW_istore_n (lv2 := [(2, .int (x2 + 0)), (4, .int (66 + (3 * x3))), (0, .ref a0), (1, .int x1), (3, .int x3)]) dX11_pushed_70 rfl (by decide) rfl ?_
        refine mW_iinc (j := 4) (v := x3 + 1) (lv2 := [(3, .int (x3 + 1)), (2, .int (x2 + 0)), (4, .int (66 + (3 * x3))), (0, .ref a0), (1, .int x1)]) dX11_pushed_71 rfl rfl (by decide) rfl ?_
        refine mW_goto (tgt := 4) dX11_pushed_74 (by decide) ?_
        refine mW_loc [3, 4, 1, 0] (lv2 := [(0, .ref a0), (1, .int x1), (2, .int (x2 + 0)), (3, .int (x3 + 1))]) rfl ?_
        exact k3 c1 c2 c3
      · refine mW_aload_n (j := 1) dX11_pushed_56 rfl rfl ?_
        refine mW_getR dX11_pushed_57 f_X11_13 h1 rfl h2 ?_
        refine mW_iload (j := 0) dX11_pushed_60 rfl ?_
        refine mW_iconst (v := 1) dX11_pushed_62 (by decide) ?_
        refine mW_iadd dX11_pushed_63 ?_
        refine mW_ialdJ dX11_pushed_64 h3 (s4 c1 c2 c3) rfl ?_
        refine mW_goto (tgt := 69) dX11_pushed_65 (by decide) ?_
        refine mW_iadd dX11_pushed_69 ?_
        refine mW_istore_n (lv2 := [(2, .int (x2 + (hai w a0_1 (((66 + (3 * x3)) + 1).toNatClampNeg)))), (4, .int (66 + (3 * x3))), (0, .ref a0), (1, .int x1), (3, .int x3)]) dX11_pushed_70 rfl (by decide) rfl ?_
        refine mW_iinc (j := 4) (v := x3 + 1) (lv2 := [(3, .int (x3 + 1)), (2, .int (x2 + (hai w a0_1 (((66 + (3 * x3)) + 1).toNatClampNeg)))), (4, .int (66 + (3 * x3))), (0, .ref a0), (1, .int x1)]) dX11_pushed_71 rfl rfl (by decide) rfl ?_
        refine mW_goto (tgt := 4) dX11_pushed_74 (by decide) ?_
        refine mW_loc [3, 4, 1, 0] (lv2 := [(0, .ref a0), (1, .int x1), (2, .int (x2 + (hai w a0_1 (((66 + (3 * x3)) + 1).toNatClampNeg)))), (3, .int (x3 + 1))]) rfl ?_
        exact k4 c1 c2 c3
abbrev mX11_settles : mM := (yX11_settles, cX11_settles, 2, (some .int), [])
theorem u1582 : (Cond.fieldLink "LineFollowerBenchModel" 218 "LineFollowerBenchModel" "steps" "I" : Cond) ∈ mTs := mTs_in 1582 (by decide +kernel) (by decide +kernel)
theorem f_X11_218 : mFld "LineFollowerBenchModel" 218 11 22 := ⟨RX11, TX11, 36, "LineFollowerBenchModel", rfl, by decide, in_X11, u1582, Or.inl rfl, by decide⟩
set_option maxHeartbeats 4000000 in
set_option maxRecDepth 100000 in
theorem gX11_settles_0 {G : mG} {w : mH} {Φ : mF} {a0 : Nat} (h1 : hk w a0 = (11, 0)) (k1 : mW G mX11_settles 2 0 0 7 [(0, .ref a0), (1, .int ((hfi w a0 22) + 1))] [] w Φ) : mW G mX11_settles 2 0 0 0 [(0, .ref a0)] [] w Φ := by
  refine mW_aload_n (j := 0) dX11_settles_0 rfl rfl ?_
  refine mW_get dX11_settles_1 f_X11_218 h1 rfl ?_
  refine mW_iconst (v := 1) dX11_settles_4 (by decide) ?_
  refine mW_iadd dX11_settles_5 ?_
  refine mW_istore_n (lv2 := [(1, .int ((hfi w a0 22) + 1)), (0, .ref a0)]) dX11_settles_6 rfl (by decide) rfl ?_
  refine mW_loc [1, 0] (lv2 := [(0, .ref a0), (1, .int ((hfi w a0 22) + 1))]) rfl ?_
  exact k1
theorem u1575 : (Cond.fieldLink "LineFollowerBenchModel" 39 "LineFollowerBenchModel" "errors" "[I" : Cond) ∈ mTs := mTs_in 1575 (by decide +kernel) (by decide +kernel)
theorem f_X11_39 : mFld "LineFollowerBenchModel" 39 11 15 := ⟨RX11, TX11, 36, "LineFollowerBenchModel", rfl, by decide, in_X11, u1575, Or.inl rfl, by decide⟩
set_option maxHeartbeats 4000000 in
set_option maxRecDepth 100000 in
theorem gX11_settles_7 {G : mG} {w : mH} {Φ : mF} {a0 : Nat} {x1 : Int32} {a0_15 n_a0_15 a0_1 n_a0_1 : Nat} (h1 : hk w a0 = (11, 0)) (h2 : hfr w a0 15 = some a0_15) (h3 : hk w a0_15 = (16, n_a0_15)) (s1 : (¬ (x1 ≤ 0)) → vp_in (x1 - 1) n_a0_15) (h4 : hfr w a0 1 = some a0_1) (h5 : hk w a0_1 = (16, n_a0_1)) (s2 : (¬ (x1 ≤ 0)) → vp_in 14 n_a0_1) (k1 : (x1 ≤ 0) → (x1 ≤ (hfi w a0 22)) → Φ (.inl (some (.int x1))) w) (k2 : (x1 ≤ 0) → (¬ (x1 ≤ (hfi w a0 22))) → Φ (.inl (some (.int (-1)))) w) (k3 : (¬ (x1 ≤ 0)) → ((hai w a0_1 14) < (vX11_amount (hai w a0_15 ((x1 - 1).toNatClampNeg)))) → (x1 ≤ (hfi w a0 22)) → Φ (.inl (some (.int x1))) w) (k4 : (¬ (x1 ≤ 0)) → ((hai w a0_1 14) < (vX11_amount (hai w a0_15 ((x1 - 1).toNatClampNeg)))) → (¬ (x1 ≤ (hfi w a0 22))) → Φ (.inl (some (.int (-1)))) w) (k5 : (¬ (x1 ≤ 0)) → (¬ ((hai w a0_1 14) < (vX11_amount (hai w a0_15 ((x1 - 1).toNatClampNeg))))) → mW G mX11_settles 2 0 0 7 [(0, .ref a0), (1, .int (x1 + (-1)))] [] w Φ) : mW G mX11_settles 2 0 0 7 [(0, .ref a0), (1, .int x1)] [] w Φ := by
  refine mW_iload_n (j := 1) dX11_settles_7 rfl rfl ?_
  refine mW_if_le (tgt := 38) dX11_settles_8 (by decide) (fun c1 => ?_) (fun c1 => ?_)
  · refine mW_iload_n (j := 1) dX11_settles_38 rfl rfl ?_
    refine mW_aload_n (j := 0) dX11_settles_39 rfl rfl ?_
    refine mW_get dX11_settles_40 f_X11_218 h1 rfl ?_
    refine mW_icmp_le (tgt := 50) dX11_settles_43 (by decide) (fun c2 => ?_) (fun c2 => ?_)
    · refine mW_iload_n (j := 1) dX11_settles_50 rfl rfl ?_
      exact mW_iret dX11_settles_51 rfl (k1 c1 c2)
    · refine mW_iconst (v := (-1)) dX11_settles_46 (by decide) ?_
      refine mW_goto (tgt := 51) dX11_settles_47 (by decide) ?_
      exact mW_iret dX11_settles_51 rfl (k2 c1 c2)
  · refine mW_aload_n (j := 0) dX11_settles_11 rfl rfl ?_
    refine mW_getR dX11_settles_12 f_X11_39 h1 rfl h2 ?_
    refine mW_iload_n (j := 1) dX11_settles_15 rfl rfl ?_
    refine mW_iconst (v := 1) dX11_settles_16 (by decide) ?_
    refine mW_isub dX11_settles_17 ?_
    refine mW_ialdJ dX11_settles_18 h3 (s1 c1) rfl ?_
    refine mW_callSe (As := [.int (hai w a0_15 ((x1 - 1).toNatClampNeg))]) (rest := []) (kc2 := 0) (ks2 := 0) dX11_settles_19 l_X11_179 rfl (qX11_amount (w := w) (x0 := hai w a0_15 ((x1 - 1).toNatClampNeg))) (Nat.le_of_ble_eq_true rfl) (by decide) rfl rfl ?_
    refine mW_aload_n (j := 0) dX11_settles_22 rfl rfl ?_
    refine mW_getR dX11_settles_23 f_X11_13 h1 rfl h4 ?_
    refine mW_bipush (v := 14) dX11_settles_26 (by decide) ?_
    refine mW_ialdJ dX11_settles_28 h5 (s2 c1) (j := 14) (by decide) ?_
    refine mW_icmp_gt (tgt := 38) dX11_settles_29 (by decide) (fun c3 => ?_) (fun c3 => ?_)
    · refine mW_iload_n (j := 1) dX11_settles_38 rfl rfl ?_
      refine mW_aload_n (j := 0) dX11_settles_39 rfl rfl ?_
      refine mW_get dX11_settles_40 f_X11_218 h1 rfl ?_
      refine mW_icmp_le (tgt := 50) dX11_settles_43 (by decide) (fun c4 => ?_) (fun c4 => ?_)
      · refine mW_iload_n (j := 1) dX11_settles_50 rfl rfl ?_
        exact mW_iret dX11_settles_51 rfl (k3 c1 c3 c4)
      · refine mW_iconst (v := (-1)) dX11_settles_46 (by decide) ?_
        refine mW_goto (tgt := 51) dX11_settles_47 (by decide) ?_
        exact mW_iret dX11_settles_51 rfl (k4 c1 c3 c4)
    · refine mW_iinc (j := 1) (v := x1 + (-1)) (lv2 := [(1, .int (x1 + (-1))), (0, .ref a0)]) dX11_settles_32 rfl rfl (by decide) rfl ?_
      refine mW_goto (tgt := 7) dX11_settles_35 (by decide) ?_
      refine mW_loc [1, 0] (lv2 := [(0, .ref a0), (1, .int (x1 + (-1)))]) rfl ?_
      exact k5 c1 c3
theorem qX11_pointAt {G : mG} {w : mH} {a0 b n : Nat} {x1 : Int32} (T : rAt w a0 b) (hN : hai w b 29 = nI n) (hb : n ≤ 5) : mC G mX11_pointAt 2 0 0 [.ref a0, .int x1] w (mEq (.inl (some (.int (fIdx (rX (hai w b)) x1 n 0)))) w) := by
  obtain ⟨h1, h2, h3⟩ := T
  refine mC_of (by decide +kernel) rfl (Nat.le_of_ble_eq_true rfl) rfl ?_
  refine gX11_pointAt_0 ?_
  have key := m_up0 (N := n) (P := fun i => mW G mX11_pointAt 2 0 0 2 [(0, .ref a0), (1, .int x1), (2, .int (nI i))] [] w (mEq (.inl (some (.int (fIdx (rX (hai w b)) x1 (n - i) i)))) w)) ?_ ?_ 0 (by omega)
  · exact key
  · refine gX11_pointAt_2 h1 h2 h3 (m_vp (a := 29) (by omega) (by omega)) (fun c1 => ?_) (fun c1 => ?_) (fun c1 c2 => ?_) (fun c1 c2 => ?_)
    all_goals first | (rw [Nat.sub_self]; exact mEq_rf) | (rw [hN, m_le (by omega) (by omega)] at c1; omega)
  · intro i hi ih
    have e1 : n - i = (n - (i + 1)) + 1 := by omega
    rw [e1]
    refine gX11_pointAt_2 h1 h2 h3 (m_vp (a := 29) (by omega) (by omega)) (fun c1 => by rw [m_30]; exact m_vp (by omega) (by omega)) (fun c1 => ?_) (fun c1 c2 => ?_) (fun c1 c2 => ?_)
    · rw [hN, m_le (by omega) (by omega)] at c1; omega
    · rw [vX11_x_n (by omega)] at c2
      rw [nI_1, fIdx, if_neg c2]; exact ih
    · rw [vX11_x_n (by omega)] at c2
      rw [fIdx, if_pos c2]; exact mEq_rf
theorem qX11_tabled {G : mG} {w : mH} {a0 b n : Nat} {x1 : Int32} (T : rAt w a0 b) (hN : hai w b 29 = nI n) (hb : n ≤ 5) (hX : ∀ i, i + 1 < n → ¬ rX (hai w b) (i + 1) - rX (hai w b) i = 0) : mC G mX11_tabled 2 0 0 [.ref a0, .int x1] w (mEq (.inl (some (.int (fTab (rX (hai w b)) (rY (hai w b)) n x1)))) w) := by
  obtain ⟨h1, h2, h3⟩ := T
  refine mC_of (by decide +kernel) rfl (Nat.le_of_ble_eq_true rfl) rfl ?_
  have hz : ¬ hai w b 29 = 0 → 0 < n := fun c => Nat.pos_of_ne_zero (fun h => c (by rw [hN, h]; rfl))
  have hn1 : 0 < n → hai w b 29 - 1 = nI (n - 1) := fun h => by rw [hN, show n = (n - 1) + 1 by omega, m_sub1]; rfl
  have x0 : vX11_x w 0 b = rX (hai w b) 0 := vX11_x_n (i := 0) (by omega)
  have y0 : vX11_y w 0 b = rY (hai w b) 0 := vX11_y_n (i := 0) (by omega)
  refine gX11_tabled_0 h1 h2 h3 (m_vp (a := 29) (by omega) (by omega)) (fun c1 => m_vp (a := 30) (by omega) (by omega)) (fun c1 c2 => ?_) (fun c1 c2 c3 => ?_) (fun c1 c2 => m_vp (a := 31) (by omega) (by omega)) (fun c1 c2 c3 => ?_) (fun c1 c2 c3 => ⟨?_, rfl⟩) (fun c1 c2 => ⟨?_, rfl⟩) (fun c1 => ⟨?_, rfl⟩)
  · rw [hn1 (hz c1), m_30]; exact m_vp (by omega) (by omega)
  · rw [hn1 (hz c1), m_30, m_p1]; exact m_vp (by omega) (by omega)
  · have hn := hz c1
    rw [x0] at c2
    rw [hn1 hn, vX11_x_n (by omega)] at c3
    have h2n : 2 ≤ n := by
      rcases Nat.lt_or_ge n 2 with h | h
      · have e : n - 1 = 0 := by omega
        rw [e] at c3
        exact absurd (Int32.lt_trans c2 c3) (fun h => Int32.lt_irrefl h)
      · exact h
    have key : ∀ i, i ≤ n - 2 → mW G mX11_tabled 2 0 0 47 [(0, .ref a0), (1, .int x1), (2, .int (hai w b 29)), (3, .int (nI i))] [] w (mEq (.inl (some (.int (fTabL (rX (hai w b)) (rY (hai w b)) x1 (n - 2 - i) i)))) w) := by
      refine m_up0 (N := n - 2) ?_ ?_
      · rw [Nat.sub_self]
        have e1 : n - 2 + 1 = n - 1 := by omega
        refine gX11_tabled_47 h1 h2 h3 ?_ (fun c4 => ?_) (fun c4 => ?_) (fun c4 => ?_) (fun c4 => ?_) (fun c4 => ⟨?_, rfl⟩) (fun c4 => ?_)
        · rw [m_p1, m_30]; exact m_vp (by omega) (by omega)
        · rw [m_30, m_p1]; exact m_vp (by omega) (by omega)
        · rw [m_p1, m_30, m_p1]; exact m_vp (by omega) (by omega)
        · rw [m_30]; exact m_vp (by omega) (by omega)
        · rw [m_p1, vX11_x_n (by omega), vX11_x_n (by omega)]; exact hX _ (by omega)
        · simp only [m_p1, vX11_x_n (show n - 2 ≤ 1000 by omega), vX11_x_n (show n - 2 + 1 ≤ 1000 by omega), vX11_y_n (show n - 2 ≤ 1000 by omega), vX11_y_n (show n - 2 + 1 ≤ 1000 by omega), fTabL, fBw]
        · rw [m_p1, vX11_x_n (by omega), e1] at c4
          exact absurd c3 c4
      · intro i hi ih
        have e1 : n - 2 - i = (n - 2 - (i + 1)) + 1 := by omega
        rw [e1]
        refine gX11_tabled_47 h1 h2 h3 ?_ (fun c4 => ?_) (fun c4 => ?_) (fun c4 => ?_) (fun c4 => ?_) (fun c4 => ⟨?_, rfl⟩) (fun c4 => ?_)
        · rw [m_p1, m_30]; exact m_vp (by omega) (by omega)
        · rw [m_30, m_p1]; exact m_vp (by omega) (by omega)
        · rw [m_p1, m_30, m_p1]; exact m_vp (by omega) (by omega)
        · rw [m_30]; exact m_vp (by omega) (by omega)
        · rw [m_p1, vX11_x_n (by omega), vX11_x_n (by omega)]; exact hX _ (by omega)
        · rw [m_p1, vX11_x_n (by omega)] at c4
          simp only [m_p1, vX11_x_n (show i ≤ 1000 by omega), vX11_x_n (show i + 1 ≤ 1000 by omega), vX11_y_n (show i ≤ 1000 by omega), vX11_y_n (show i + 1 ≤ 1000 by omega), fTabL, if_pos c4, fBw]
        · rw [m_p1, vX11_x_n (by omega)] at c4
          rw [m_p1, fTabL, if_neg c4]; exact ih
    rw [fTab, if_neg (by omega), if_pos c2, if_pos c3]
    exact key 0 (by omega)
  · have hn := hz c1
    rw [x0] at c2
    rw [hn1 hn, vX11_x_n (by omega)] at c3
    rw [fTab, if_neg (by omega), if_pos c2, if_neg c3, hn1 hn, vX11_y_n (by omega)]
  · have hn := hz c1
    rw [x0] at c2
    rw [fTab, if_neg (by omega), if_neg c2, y0]
  · have hn : n = 0 := by
      rw [hN] at c1
      exact (nI_eq (b := 0) (by omega) (by omega)).mp c1
    rw [fTab, if_pos hn]
theorem qX11_curved {G : mG} {w : mH} {a0 b n : Nat} {x1 : Int32} (T : rAt w a0 b) (hN : hai w b 40 = nI n) (hb : n ≤ 8) (hL : ∀ i, i < n → ¬ rL (hai w b) i = 0) : mC G mX11_curved 1 0 0 [.ref a0, .int x1] w (mEq (.inl (some (.int (fCuM (rK (hai w b)) (rL (hai w b)) (rC (hai w b)) n 0 x1)))) w) := by
  obtain ⟨h1, h2, h3⟩ := T
  refine mC_of (by decide +kernel) rfl (Nat.le_of_ble_eq_true rfl) rfl ?_
  refine gX11_curved_0 ?_
  have key := m_up0 (N := n) (P := fun i => ∀ x : Int32, mW G mX11_curved 1 0 0 4 [(0, .ref a0), (1, .int x1), (2, .int x), (3, .int (nI i))] [] w (mEq (.inl (some (.int (fCuM (rK (hai w b)) (rL (hai w b)) (rC (hai w b)) (n - i) i x)))) w)) ?_ ?_ 0 (by omega)
  · exact key x1
  · intro x
    refine gX11_curved_4 h1 h2 h3 (m_vp (a := 40) (by omega) (by omega)) (fun c1 => ?_) (fun c1 c2 => ?_) (fun c1 c2 c3 c4 => ?_) (fun c1 c2 c3 c4 => ?_) (fun c1 c2 c3 c4 => ?_) (fun c1 => ?_) (fun c1 c2 => ?_) (fun c1 c2 c3 c4 => ?_) (fun c1 c2 c3 c4 => ?_) (fun c1 c2 c3 => ?_)
    all_goals first | (rw [Nat.sub_self]; exact mEq_rf) | (rw [hN, m_le (by omega) (by omega)] at c1; omega)
  · intro i hi ih x
    have e1 : n - i = (n - (i + 1)) + 1 := by omega
    have eL : ((41 : Int32) + 3 * nI i + 1).toNatClampNeg = 41 + 3 * i + 1 := by rw [m_41, m_p1, m_cl (by omega)]
    have eK : ((41 : Int32) + 3 * nI i).toNatClampNeg = 41 + 3 * i := by rw [m_41, m_cl (by omega)]
    have eC : ((41 : Int32) + 3 * nI i + 2).toNatClampNeg = 41 + 3 * i + 2 := by rw [m_41, m_p2, m_cl (by omega)]
    rw [e1]
    refine gX11_curved_4 h1 h2 h3 (m_vp (a := 40) (by omega) (by omega)) (fun c1 => ?_) (fun c1 c2 => ?_) (fun c1 c2 c3 c4 => ?_) (fun c1 c2 c3 c4 => ?_) (fun c1 c2 c3 c4 => ?_) (fun c1 => ?_) (fun c1 c2 => ?_) (fun c1 c2 c3 c4 => ⟨?_, rfl⟩) (fun c1 c2 c3 c4 => ⟨?_, rfl⟩) (fun c1 c2 c3 => ⟨?_, rfl⟩)
    · rw [m_41, m_p1]; exact m_vp (by omega) (by omega)
    · rw [m_41]; exact m_vp (by omega) (by omega)
    · rw [m_41, m_p2]; exact m_vp (by omega) (by omega)
    · rw [eL]; exact hL i hi
    · rw [m_41, m_p2]; exact m_vp (by omega) (by omega)
    · rw [hN, m_le (by omega) (by omega)] at c1; omega
    · rw [eL] at c2 ⊢
      rw [nI_1, fCuM, if_pos (show rL (hai w b) i ≤ x from c2)]; exact ih _
    all_goals rw [eL] at c2; rw [eK] at c3
    · rw [eK] at c4
      rw [eL, eC, fCuM, if_neg (show ¬ rL (hai w b) i ≤ x from c2), if_neg (show ¬ rK (hai w b) i = 0 from c3), if_neg (show ¬ rK (hai w b) i = 1 from c4)]; rfl
    · rw [eK] at c4
      rw [eC, fCuM, if_neg (show ¬ rL (hai w b) i ≤ x from c2), if_neg (show ¬ rK (hai w b) i = 0 from c3), if_pos (show rK (hai w b) i = 1 from c4)]; rfl
    · rw [fCuM, if_neg (show ¬ rL (hai w b) i ≤ x from c2), if_pos (show rK (hai w b) i = 0 from c3)]
theorem qX11_pushed {G : mG} {w : mH} {a0 b n : Nat} {x1 : Int32} (T : rAt w a0 b) (hN : hai w b 65 = nI n) (hb : n ≤ 4) : mC G mX11_pushed 1 0 0 [.ref a0, .int x1] w (mEq (.inl (some (.int (fPuM (rF (hai w b)) (rV (hai w b)) (rW (hai w b)) x1 n)))) w) := by
  obtain ⟨h1, h2, h3⟩ := T
  refine mC_of (by decide +kernel) rfl (Nat.le_of_ble_eq_true rfl) rfl ?_
  refine gX11_pushed_0 ?_
  refine m_up0 (N := n) (P := fun i => mW G mX11_pushed 1 0 0 4 [(0, .ref a0), (1, .int x1), (2, .int (fPuM (rF (hai w b)) (rV (hai w b)) (rW (hai w b)) x1 i)), (3, .int (nI i))] [] w _) ?_ ?_ 0 (by omega)
  · refine gX11_pushed_4 h1 h2 h3 (m_vp (a := 65) (by omega) (by omega)) (fun c1 => ?_) (fun c1 c2 => ?_) (fun c1 c2 c3 => ?_) (fun c1 => mEq_rf) (fun c1 c2 => ?_) (fun c1 c2 c3 => ?_) (fun c1 c2 c3 => ?_)
    all_goals (rw [hN, m_le (by omega) (by omega)] at c1; omega)
  · intro i hi ih
    have eF : ((66 : Int32) + 3 * nI i).toNatClampNeg = 66 + 3 * i := by rw [m_66, m_cl (by omega)]
    have eV : ((66 : Int32) + 3 * nI i + 1).toNatClampNeg = 66 + 3 * i + 1 := by rw [m_66, m_p1, m_cl (by omega)]
    have eW : ((66 : Int32) + 3 * nI i + 2).toNatClampNeg = 66 + 3 * i + 2 := by rw [m_66, m_p2, m_cl (by omega)]
    refine gX11_pushed_4 h1 h2 h3 (m_vp (a := 65) (by omega) (by omega)) (fun c1 => ?_) (fun c1 c2 => ?_) (fun c1 c2 c3 => ?_) (fun c1 => ?_) (fun c1 c2 => ?_) (fun c1 c2 c3 => ?_) (fun c1 c2 c3 => ?_)
    · rw [m_66]; exact m_vp (by omega) (by omega)
    · rw [m_66, m_p2]; exact m_vp (by omega) (by omega)
    · rw [m_66, m_p1]; exact m_vp (by omega) (by omega)
    · rw [hN, m_le (by omega) (by omega)] at c1; omega
    all_goals rw [eF] at c2
    · have e1 : fPuM (rF (hai w b)) (rV (hai w b)) (rW (hai w b)) x1 (i + 1) = fPuM (rF (hai w b)) (rV (hai w b)) (rW (hai w b)) x1 i + 0 := by rw [fPuM]; exact if_pos c2
      rw [nI_1, ← e1]; exact ih
    · rw [eF, eW] at c3
      have e1 : fPuM (rF (hai w b)) (rV (hai w b)) (rW (hai w b)) x1 (i + 1) = fPuM (rF (hai w b)) (rV (hai w b)) (rW (hai w b)) x1 i + 0 := by rw [fPuM, if_neg (show ¬ x1 < rF (hai w b) i from c2)]; exact if_pos c3
      rw [nI_1, ← e1]; exact ih
    · rw [eF, eW] at c3
      have e1 : fPuM (rF (hai w b)) (rV (hai w b)) (rW (hai w b)) x1 (i + 1) = fPuM (rF (hai w b)) (rV (hai w b)) (rW (hai w b)) x1 i + rV (hai w b) i := by rw [fPuM, if_neg (show ¬ x1 < rF (hai w b) i from c2)]; exact if_neg c3
      rw [nI_1, eV, ← (show rV (hai w b) i = hai w b (66 + 3 * i + 1) from rfl), ← e1]; exact ih
theorem qX11_settles {G : mG} {w : mH} {a0 b e N : Nat} (T : rAt w a0 b) (hE : hfr w a0 15 = some e) (hE2 : hk w e = (16, 201)) (hN : hfi w a0 22 = nI N) (hb : N ≤ 200) : mC G mX11_settles 2 0 0 [.ref a0] w (mEq (.inl (some (.int (fSeR (hai w e) (hai w b 14) N)))) w) := by
  obtain ⟨h1, h2, h3⟩ := T
  refine mC_of (by decide +kernel) rfl (Nat.le_of_ble_eq_true rfl) rfl ?_
  refine gX11_settles_0 h1 ?_
  rw [hN, nI_1]
  have key : ∀ k, k ≤ N + 1 → fTr (hai w e) (hai w b 14) (N + 1) = fTr (hai w e) (hai w b 14) k → mW G mX11_settles 2 0 0 7 [(0, .ref a0), (1, .int (nI k))] [] w (mEq (.inl (some (.int (fSeR (hai w e) (hai w b 14) N)))) w) := by
    intro k
    induction k with
    | zero =>
      intro hk hf
      have hv : fSeR (hai w e) (hai w b 14) N = nI 0 := by unfold fSeR; rw [hf]; exact if_neg (by show ¬ (0 = N + 1); omega)
      refine gX11_settles_7 h1 hE hE2 (fun c1 => absurd (by decide) c1) h2 h3 (fun c1 => absurd (by decide) c1) (fun c1 c2 => ⟨by rw [hv], rfl⟩) (fun c1 c2 => ?_) (fun c1 c2 c3 => absurd (by decide) c1) (fun c1 c2 c3 => absurd (by decide) c1) (fun c1 c2 => absurd (by decide) c1)
      rw [hN, m_le (by omega) (by omega)] at c2; omega
    | succ k ih =>
      intro hk hf
      have hp : ¬ nI (k + 1) ≤ 0 := fun h => by rw [m_le0 (by omega)] at h; omega
      refine gX11_settles_7 h1 hE hE2 (fun c1 => by rw [m_sub1]; exact m_vp (by omega) (by omega)) h2 h3 (fun c1 => m_vp (a := 14) (by omega) (by omega)) (fun c1 c2 => absurd c1 hp) (fun c1 c2 => absurd c1 hp) (fun c1 c2 c3 => ?_) (fun c1 c2 c3 => ?_) (fun c1 c2 => ?_)
      all_goals rw [m_sub1, m_cl (by omega)] at c2
      · have e1 : fTr (hai w e) (hai w b 14) (k + 1) = k + 1 := by rw [fTr, if_pos c2]
        rw [hN, m_le (by omega) (by omega)] at c3
        refine ⟨?_, rfl⟩
        unfold fSeR
        rw [hf, e1, if_neg (by omega)]
      · have e1 : fTr (hai w e) (hai w b 14) (k + 1) = k + 1 := by rw [fTr, if_pos c2]
        rw [hN, m_le (by omega) (by omega)] at c3
        refine ⟨?_, rfl⟩
        unfold fSeR
        rw [hf, e1, if_pos (by omega)]
      · have e1 : fTr (hai w e) (hai w b 14) (k + 1) = fTr (hai w e) (hai w b 14) k := by rw [fTr, if_neg c2]
        rw [pk_m1]
        exact ih (by omega) (hf.trans e1)
  exact key (N + 1) (Nat.le_refl _) rfl
