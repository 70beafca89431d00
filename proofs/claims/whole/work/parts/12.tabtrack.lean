/-! class Table and class Track: reading loops -/
/-- a table at a: places at p, values at v, n points -/
def bAt (w : mH) (a p v n : Nat) : Prop := hk w a = (5, 0) ∧ hfr w a 0 = some p ∧ hk w p = (16, 5) ∧ hfr w a 1 = some v ∧ hk w v = (16, 5) ∧ hfi w a 2 = nI n ∧ n ≤ 5
/-- a track at a: its rows by their fields' numbers, n segments, m disturbances -/
def kAt (w : mH) (a : Nat) (r : Nat → Nat) (n m : Nat) : Prop := hk w a = (7, 0) ∧ (∀ k, k < 7 → k ≠ 3 → hfr w a k = some (r k)) ∧ (∀ k, k < 3 → hk w (r k) = (16, 8)) ∧ (∀ k, 3 < k → k < 7 → hk w (r k) = (16, 4)) ∧ hfi w a 3 = nI n ∧ n ≤ 8 ∧ hfi w a 7 = nI m ∧ m ≤ 4
def fIdx (X : Nat → Int32) (x : Int32) : Nat → Nat → Int32 | 0, _ => -1 | j + 1, i => if X i = x then nI i else fIdx X x j (i + 1)
def fBet (X Y : Nat → Int32) (i : Nat) (x : Int32) : Int32 := if X (i + 1) - X i ≤ 0 then 0 else Y i + (Y (i + 1) - Y i) * (x - X i) / (X (i + 1) - X i)
def fRawL (X Y : Nat → Int32) (n : Nat) (x : Int32) : Nat → Nat → Int32 | 0, _ => Y (n - 1) | j + 1, i => if X (i + 1) < x then fRawL X Y n x j (i + 1) else fBet X Y i x
def fRaw (X Y : Nat → Int32) (n : Nat) (x : Int32) : Int32 := if n = 0 then 0 else if X 0 < x then fRawL X Y n x (n - 1) 0 else Y 0
def fLen (L : Nat → Int32) : Nat → Int32 | 0 => 0 | k + 1 => fLen L k + L k
def fCin (K L C : Nat → Int32) (i : Nat) (x : Int32) : Int32 := if K i = 2 then (if L i ≤ 0 then (if K i = 1 then C i else 0) else C i * x / L i) else (if K i = 1 then C i else 0)
def fCur (K L C : Nat → Int32) : Nat → Nat → Int32 → Int32 | 0, _, _ => 0 | j + 1, i, x => if L i ≤ x then fCur K L C j (i + 1) (x - L i) else fCin K L C i x
def fPus (F V L : Nat → Int32) (x : Int32) : Nat → Int32 | 0 => 0 | k + 1 => if vX10_isWithin (x - F k) 0 (L k - 1) = 0 then fPus F V L x k else fPus F V L x k + V k
theorem m_5 {a : Nat} (ha : a ≤ 70000) : (5 : Int32) ≤ nI a ↔ 5 ≤ a := m_le (a := 5) (by omega) ha
theorem m_8 {a : Nat} (ha : a ≤ 70000) : (8 : Int32) ≤ nI a ↔ 8 ≤ a := m_le (a := 8) (by omega) ha
theorem m_4 {a : Nat} (ha : a ≤ 70000) : (4 : Int32) ≤ nI a ↔ 4 ≤ a := m_le (a := 4) (by omega) ha
theorem m_le0 {a : Nat} (ha : a ≤ 70000) : nI a ≤ 0 ↔ a = 0 := (m_le (b := 0) ha (by omega)).trans (by omega)
theorem m_sub1 {a : Nat} : nI (a + 1) - 1 = nI a := nI_pred a
abbrev mX5_indexOf : mM := (yX5_indexOf, cX5_indexOf, 3, (some .int), [])
set_option maxHeartbeats 4000000 in
set_option maxRecDepth 100000 in
theorem gX5_indexOf_0 {G : mG} {w : mH} {Φ : mF} {a0 : Nat} {x1 : Int32}  (k1 : mW G mX5_indexOf 1 0 0 2 [(0, .ref a0), (1, .int x1), (2, .int 0)] [] w Φ) : mW G mX5_indexOf 1 0 0 0 [(0, .ref a0), (1, .int x1)] [] w Φ := by
  refine mW_iconst (v := 0) dX5_indexOf_0 (by decide) ?_
  refine mW_istore_n (lv2 := [(2, .int 0), (0, .ref a0), (1, .int x1)]) dX5_indexOf_1 rfl (by decide) rfl ?_
  refine mW_loc [1, 2, 0] (lv2 := [(0, .ref a0), (1, .int x1), (2, .int 0)]) rfl ?_
  exact k1
set_option maxHeartbeats 4000000 in
set_option maxRecDepth 100000 in
theorem gX5_indexOf_2 {G : mG} {w : mH} {Φ : mF} {a0 : Nat} {x1 x2 : Int32} {a0_0 n_a0_0 : Nat} (h1 : hk w a0 = (5, 0)) (h2 : hfr w a0 0 = some a0_0) (h3 : hk w a0_0 = (16, n_a0_0)) (s1 : (¬ ((hfi w a0 2) ≤ x2)) → (¬ (5 ≤ x2)) → vp_in x2 n_a0_0) (k1 : ((hfi w a0 2) ≤ x2) → Φ (.inl (some (.int (-1)))) w) (k2 : (¬ ((hfi w a0 2) ≤ x2)) → (5 ≤ x2) → Φ (.inl (some (.int (-1)))) w) (k3 : (¬ ((hfi w a0 2) ≤ x2)) → (¬ (5 ≤ x2)) → (¬ ((hai w a0_0 x2.toNatClampNeg) = x1)) → mW G mX5_indexOf 1 0 0 2 [(0, .ref a0), (1, .int x1), (2, .int (x2 + 1))] [] w Φ) (k4 : (¬ ((hfi w a0 2) ≤ x2)) → (¬ (5 ≤ x2)) → ((hai w a0_0 x2.toNatClampNeg) = x1) → Φ (.inl (some (.int x2))) w) : mW G mX5_indexOf 1 0 0 2 [(0, .ref a0), (1, .int x1), (2, .int x2)] [] w Φ := by
  refine mW_iload_n (j := 2) dX5_indexOf_2 rfl rfl ?_
  refine mW_aload_n (j := 0) dX5_indexOf_3 rfl rfl ?_
  refine mW_get dX5_indexOf_4 f_X5_18 h1 rfl ?_
  refine mW_icmp_ge (tgt := 33) dX5_indexOf_7 (by decide) (fun c1 => ?_) (fun c1 => ?_)
  · refine mW_iconst (v := (-1)) dX5_indexOf_33 (by decide) ?_
    exact mW_iret dX5_indexOf_34 rfl (k1 c1)
  · refine mW_iload_n (j := 2) dX5_indexOf_10 rfl rfl ?_
    refine mW_iconst (v := 5) dX5_indexOf_11 (by decide) ?_
    refine mW_icmp_ge (tgt := 33) dX5_indexOf_12 (by decide) (fun c2 => ?_) (fun c2 => ?_)
    · refine mW_iconst (v := (-1)) dX5_indexOf_33 (by decide) ?_
      exact mW_iret dX5_indexOf_34 rfl (k2 c1 c2)
    · refine mW_aload_n (j := 0) dX5_indexOf_15 rfl rfl ?_
      refine mW_getR dX5_indexOf_16 f_X5_9 h1 rfl h2 ?_
      refine mW_iload_n (j := 2) dX5_indexOf_19 rfl rfl ?_
      refine mW_ialdJ dX5_indexOf_20 h3 (s1 c1 c2) rfl ?_
      refine mW_iload_n (j := 1) dX5_indexOf_21 rfl rfl ?_
      refine mW_icmp_ne (tgt := 27) dX5_indexOf_22 (by decide) (fun c3 => ?_) (fun c3 => ?_)
      · refine mW_iinc (j := 2) (v := x2 + 1) (lv2 := [(2, .int (x2 + 1)), (0, .ref a0), (1, .int x1)]) dX5_indexOf_27 rfl rfl (by decide) rfl ?_
        refine mW_goto (tgt := 2) dX5_indexOf_30 (by decide) ?_
        refine mW_loc [1, 2, 0] (lv2 := [(0, .ref a0), (1, .int x1), (2, .int (x2 + 1))]) rfl ?_
        exact k3 c1 c2 c3
      · refine mW_iload_n (j := 2) dX5_indexOf_25 rfl rfl ?_
        exact mW_iret dX5_indexOf_26 rfl (k4 c1 c2 c3)
abbrev mX5_rawOutput : mM := (yX5_rawOutput, cX5_rawOutput, 3, (some .int), [])
set_option maxHeartbeats 4000000 in
set_option maxRecDepth 100000 in
theorem gX5_rawOutput_0 {G : mG} {w : mH} {Φ : mF} {a0 : Nat} {x1 : Int32} {a0_0 n_a0_0 a0_1 n_a0_1 : Nat} (h1 : hk w a0 = (5, 0)) (h2 : hfr w a0 0 = some a0_0) (h3 : hk w a0_0 = (16, n_a0_0)) (s1 : (¬ ((hfi w a0 2) ≤ 0)) → ((hfi w a0 2) ≤ 5) → vp_in 0 n_a0_0) (h4 : hfr w a0 1 = some a0_1) (h5 : hk w a0_1 = (16, n_a0_1)) (s2 : (¬ ((hfi w a0 2) ≤ 0)) → ((hfi w a0 2) ≤ 5) → (¬ ((hai w a0_0 0) < x1)) → vp_in 0 n_a0_1) (k1 : ((hfi w a0 2) ≤ 0) → Φ (.inl (some (.int 0))) w) (k2 : (¬ ((hfi w a0 2) ≤ 0)) → ((hfi w a0 2) ≤ 5) → ((hai w a0_0 0) < x1) → mW G mX5_rawOutput 2 0 0 36 [(0, .ref a0), (1, .int x1), (2, .int 1)] [] w Φ) (k3 : (¬ ((hfi w a0 2) ≤ 0)) → ((hfi w a0 2) ≤ 5) → (¬ ((hai w a0_0 0) < x1)) → Φ (.inl (some (.int (hai w a0_1 0)))) w) (k4 : (¬ ((hfi w a0 2) ≤ 0)) → (¬ ((hfi w a0 2) ≤ 5)) → Φ (.inl (some (.int 0))) w) : mW G mX5_rawOutput 2 0 0 0 [(0, .ref a0), (1, .int x1)] [] w Φ := by
  refine mW_aload_n (j := 0) dX5_rawOutput_0 rfl rfl ?_
  refine mW_get dX5_rawOutput_1 f_X5_18 h1 rfl ?_
  refine mW_if_le (tgt := 15) dX5_rawOutput_4 (by decide) (fun c1 => ?_) (fun c1 => ?_)
  · refine mW_iconst (v := 0) dX5_rawOutput_15 (by decide) ?_
    exact mW_iret dX5_rawOutput_16 rfl (k1 c1)
  · refine mW_aload_n (j := 0) dX5_rawOutput_7 rfl rfl ?_
    refine mW_get dX5_rawOutput_8 f_X5_18 h1 rfl ?_
    refine mW_iconst (v := 5) dX5_rawOutput_11 (by decide) ?_
    refine mW_icmp_le (tgt := 17) dX5_rawOutput_12 (by decide) (fun c2 => ?_) (fun c2 => ?_)
    · refine mW_iload_n (j := 1) dX5_rawOutput_17 rfl rfl ?_
      refine mW_aload_n (j := 0) dX5_rawOutput_18 rfl rfl ?_
      refine mW_getR dX5_rawOutput_19 f_X5_9 h1 rfl h2 ?_
      refine mW_iconst (v := 0) dX5_rawOutput_22 (by decide) ?_
      refine mW_ialdJ dX5_rawOutput_23 h3 (s1 c1 c2) (j := 0) (by decide) ?_
      refine mW_icmp_gt (tgt := 34) dX5_rawOutput_24 (by decide) (fun c3 => ?_) (fun c3 => ?_)
      · refine mW_iconst (v := 1) dX5_rawOutput_34 (by decide) ?_
        refine mW_istore_n (lv2 := [(2, .int 1), (0, .ref a0), (1, .int x1)]) dX5_rawOutput_35 rfl (by decide) rfl ?_
        refine mW_loc [1, 2, 0] (lv2 := [(0, .ref a0), (1, .int x1), (2, .int 1)]) rfl ?_
        exact k2 c1 c2 c3
      · refine mW_aload_n (j := 0) dX5_rawOutput_27 rfl rfl ?_
        refine mW_getR dX5_rawOutput_28 f_X5_15 h1 rfl h4 ?_
        refine mW_iconst (v := 0) dX5_rawOutput_31 (by decide) ?_
        refine mW_ialdJ dX5_rawOutput_32 h5 (s2 c1 c2 c3) (j := 0) (by decide) ?_
        exact mW_iret dX5_rawOutput_33 rfl (k3 c1 c2 c3)
    · refine mW_iconst (v := 0) dX5_rawOutput_15 (by decide) ?_
      exact mW_iret dX5_rawOutput_16 rfl (k4 c1 c2)
theorem u573 : (Cond.code ⟨"LineFollowerBench$Table", "valueBetween", "(III)I"⟩ prog_7_method_9_code 6 (some .int) : Cond) ∈ mTs := mTs_in 573 (by decide +kernel) (by decide +kernel)
theorem u73 : (Cond.initialized "LineFollowerBench$Table" : Cond) ∈ mTs := mTs_in 73 (by decide +kernel) (by decide +kernel)
theorem co_X5_valueBetween : mCode mX5_valueBetween := ⟨u573, u73, by decide⟩
theorem u570 : (Cond.methodLink "LineFollowerBench$Table" 34 ⟨"LineFollowerBench$Table", "valueBetween", "(III)I"⟩ : Cond) ∈ mTs := mTs_in 570 (by decide +kernel) (by decide +kernel)
theorem u572 : (Cond.instanceMethod ⟨"LineFollowerBench$Table", "valueBetween", "(III)I"⟩ : Cond) ∈ mTs := mTs_in 572 (by decide +kernel) (by decide +kernel)
theorem u7 : (Cond.selects "LineFollowerBench$Table" ⟨"LineFollowerBench$Table", "valueBetween", "(III)I"⟩ ⟨"LineFollowerBench$Table", "valueBetween", "(III)I"⟩ : Cond) ∈ mTs := mTs_in 7 (by decide +kernel) (by decide +kernel)
theorem l_X5_34 : mLinkV "LineFollowerBench$Table" 34 3 mX5_valueBetween := ⟨⟨by decide, by decide, by decide +kernel⟩, co_X5_valueBetween, u570, u572, u7⟩
set_option maxHeartbeats 4000000 in
set_option maxRecDepth 100000 in
theorem gX5_rawOutput_36 {G : mG} {w : mH} {Φ : mF} {a0 : Nat} {x1 x2 : Int32} {a0_1 n_a0_1 a0_0 n_a0_0 : Nat} (h1 : hk w a0 = (5, 0)) (h2 : hfr w a0 1 = some a0_1) (h3 : hk w a0_1 = (16, n_a0_1)) (s1 : ((hfi w a0 2) ≤ x2) → vp_in ((hfi w a0 2) - 1) n_a0_1) (s2 : (¬ ((hfi w a0 2) ≤ x2)) → (5 ≤ x2) → vp_in ((hfi w a0 2) - 1) n_a0_1) (h4 : hfr w a0 0 = some a0_0) (h5 : hk w a0_0 = (16, n_a0_0)) (s3 : (¬ ((hfi w a0 2) ≤ x2)) → (¬ (5 ≤ x2)) → vp_in x2 n_a0_0) (s4 : (¬ ((hfi w a0 2) ≤ x2)) → (¬ (5 ≤ x2)) → (¬ ((hai w a0_0 x2.toNatClampNeg) < x1)) → vp_in (x2 - 1) n_a0_0) (s5 : (¬ ((hfi w a0 2) ≤ x2)) → (¬ (5 ≤ x2)) → (¬ ((hai w a0_0 x2.toNatClampNeg) < x1)) → vp_in x2 n_a0_1) (s6 : (¬ ((hfi w a0 2) ≤ x2)) → (¬ (5 ≤ x2)) → (¬ ((hai w a0_0 x2.toNatClampNeg) < x1)) → vp_in (x2 - 1) n_a0_1) (s7 : (¬ ((hfi w a0 2) ≤ x2)) → (¬ (5 ≤ x2)) → (¬ ((hai w a0_0 x2.toNatClampNeg) < x1)) → (¬ (((hai w a0_0 x2.toNatClampNeg) - (hai w a0_0 (x2 - 1).toNatClampNeg)) ≤ 0)) → ¬ ((hai w a0_0 x2.toNatClampNeg) - (hai w a0_0 (x2 - 1).toNatClampNeg)) = 0) (k1 : ((hfi w a0 2) ≤ x2) → Φ (.inl (some (.int (hai w a0_1 (((hfi w a0 2) - 1).toNatClampNeg))))) w) (k2 : (¬ ((hfi w a0 2) ≤ x2)) → (5 ≤ x2) → Φ (.inl (some (.int (hai w a0_1 (((hfi w a0 2) - 1).toNatClampNeg))))) w) (k3 : (¬ ((hfi w a0 2) ≤ x2)) → (¬ (5 ≤ x2)) → ((hai w a0_0 x2.toNatClampNeg) < x1) → mW G mX5_rawOutput 2 0 0 36 [(0, .ref a0), (1, .int x1), (2, .int (x2 + 1))] [] w Φ) (k4 : (¬ ((hfi w a0 2) ≤ x2)) → (¬ (5 ≤ x2)) → (¬ ((hai w a0_0 x2.toNatClampNeg) < x1)) → Φ (.inl (some (.int (vX5_valueBetween w (x2 - 1) x2 x1 a0_0 a0_1)))) w) : mW G mX5_rawOutput 2 0 0 36 [(0, .ref a0), (1, .int x1), (2, .int x2)] [] w Φ := by
  refine mW_iload_n (j := 2) dX5_rawOutput_36 rfl rfl ?_
  refine mW_aload_n (j := 0) dX5_rawOutput_37 rfl rfl ?_
  refine mW_get dX5_rawOutput_38 f_X5_18 h1 rfl ?_
  refine mW_icmp_ge (tgt := 75) dX5_rawOutput_41 (by decide) (fun c1 => ?_) (fun c1 => ?_)
  · refine mW_aload_n (j := 0) dX5_rawOutput_75 rfl rfl ?_
    refine mW_getR dX5_rawOutput_76 f_X5_15 h1 rfl h2 ?_
    refine mW_aload_n (j := 0) dX5_rawOutput_79 rfl rfl ?_
    refine mW_get dX5_rawOutput_80 f_X5_18 h1 rfl ?_
    refine mW_iconst (v := 1) dX5_rawOutput_83 (by decide) ?_
    refine mW_isub dX5_rawOutput_84 ?_
    refine mW_ialdJ dX5_rawOutput_85 h3 (s1 c1) rfl ?_
    exact mW_iret dX5_rawOutput_86 rfl (k1 c1)
  · refine mW_iload_n (j := 2) dX5_rawOutput_44 rfl rfl ?_
    refine mW_iconst (v := 5) dX5_rawOutput_45 (by decide) ?_
    refine mW_icmp_ge (tgt := 75) dX5_rawOutput_46 (by decide) (fun c2 => ?_) (fun c2 => ?_)
    · refine mW_aload_n (j := 0) dX5_rawOutput_75 rfl rfl ?_
      refine mW_getR dX5_rawOutput_76 f_X5_15 h1 rfl h2 ?_
      refine mW_aload_n (j := 0) dX5_rawOutput_79 rfl rfl ?_
      refine mW_get dX5_rawOutput_80 f_X5_18 h1 rfl ?_
      refine mW_iconst (v := 1) dX5_rawOutput_83 (by decide) ?_
      refine mW_isub dX5_rawOutput_84 ?_
      refine mW_ialdJ dX5_rawOutput_85 h3 (s2 c1 c2) rfl ?_
      exact mW_iret dX5_rawOutput_86 rfl (k2 c1 c2)
    · refine mW_iload_n (j := 1) dX5_rawOutput_49 rfl rfl ?_
      refine mW_aload_n (j := 0) dX5_rawOutput_50 rfl rfl ?_
      refine mW_getR dX5_rawOutput_51 f_X5_9 h1 rfl h4 ?_
      refine mW_iload_n (j := 2) dX5_rawOutput_54 rfl rfl ?_
      refine mW_ialdJ dX5_rawOutput_55 h5 (s3 c1 c2) rfl ?_
      refine mW_icmp_gt (tgt := 69) dX5_rawOutput_56 (by decide) (fun c3 => ?_) (fun c3 => ?_)
      · refine mW_iinc (j := 2) (v := x2 + 1) (lv2 := [(2, .int (x2 + 1)), (0, .ref a0), (1, .int x1)]) dX5_rawOutput_69 rfl rfl (by decide) rfl ?_
        refine mW_goto (tgt := 36) dX5_rawOutput_72 (by decide) ?_
        refine mW_loc [1, 2, 0] (lv2 := [(0, .ref a0), (1, .int x1), (2, .int (x2 + 1))]) rfl ?_
        exact k3 c1 c2 c3
      · refine mW_aload_n (j := 0) dX5_rawOutput_59 rfl rfl ?_
        refine mW_iload_n (j := 2) dX5_rawOutput_60 rfl rfl ?_
        refine mW_iconst (v := 1) dX5_rawOutput_61 (by decide) ?_
        refine mW_isub dX5_rawOutput_62 ?_
        refine mW_iload_n (j := 2) dX5_rawOutput_63 rfl rfl ?_
        refine mW_iload_n (j := 1) dX5_rawOutput_64 rfl rfl ?_
        refine mW_callVe (As := [.int (x2 - 1), .int x2, .int x1]) (rest := []) (kc2 := 0) (ks2 := 0) dX5_rawOutput_65 l_X5_34 rfl h1 rfl (by decide) (qX5_valueBetween (w := w) (a0 := a0) (x1 := x2 - 1) (x2 := x2) (x3 := x1) h1 h4 h5 (s3 c1 c2) (s4 c1 c2 c3) h2 h3 (s5 c1 c2 c3) (s6 c1 c2 c3) (s7 c1 c2 c3)) (Nat.le_of_ble_eq_true rfl) (by decide) rfl rfl ?_
        exact mW_iret dX5_rawOutput_68 rfl (k4 c1 c2 c3)
abbrev mX7_totalLength : mM := (yX7_totalLength, cX7_totalLength, 3, (some .int), [])
set_option maxHeartbeats 4000000 in
set_option maxRecDepth 100000 in
theorem gX7_totalLength_0 {G : mG} {w : mH} {Φ : mF} {a0 : Nat}  (k1 : mW G mX7_totalLength 1 0 0 4 [(0, .ref a0), (1, .int 0), (2, .int 0)] [] w Φ) : mW G mX7_totalLength 1 0 0 0 [(0, .ref a0)] [] w Φ := by
  refine mW_iconst (v := 0) dX7_totalLength_0 (by decide) ?_
  refine mW_istore_n (lv2 := [(1, .int 0), (0, .ref a0)]) dX7_totalLength_1 rfl (by decide) rfl ?_
  refine mW_iconst (v := 0) dX7_totalLength_2 (by decide) ?_
  refine mW_istore_n (lv2 := [(2, .int 0), (1, .int 0), (0, .ref a0)]) dX7_totalLength_3 rfl (by decide) rfl ?_
  refine mW_loc [2, 1, 0] (lv2 := [(0, .ref a0), (1, .int 0), (2, .int 0)]) rfl ?_
  exact k1
set_option maxHeartbeats 4000000 in
set_option maxRecDepth 100000 in
theorem gX7_totalLength_4 {G : mG} {w : mH} {Φ : mF} {a0 : Nat} {x1 x2 : Int32} {a0_1 n_a0_1 : Nat} (h1 : hk w a0 = (7, 0)) (h2 : hfr w a0 1 = some a0_1) (h3 : hk w a0_1 = (16, n_a0_1)) (s1 : (¬ ((hfi w a0 3) ≤ x2)) → (¬ (8 ≤ x2)) → vp_in x2 n_a0_1) (k1 : ((hfi w a0 3) ≤ x2) → Φ (.inl (some (.int x1))) w) (k2 : (¬ ((hfi w a0 3) ≤ x2)) → (8 ≤ x2) → Φ (.inl (some (.int x1))) w) (k3 : (¬ ((hfi w a0 3) ≤ x2)) → (¬ (8 ≤ x2)) → mW G mX7_totalLength 1 0 0 4 [(0, .ref a0), (1, .int (x1 + (hai w a0_1 x2.toNatClampNeg))), (2, .int (x2 + 1))] [] w Φ) : mW G mX7_totalLength 1 0 0 4 [(0, .ref a0), (1, .int x1), (2, .int x2)] [] w Φ := by
  refine mW_iload_n (j := 2) dX7_totalLength_4 rfl rfl ?_
  refine mW_aload_n (j := 0) dX7_totalLength_5 rfl rfl ?_
  refine mW_get dX7_totalLength_6 f_X7_21 h1 rfl ?_
  refine mW_icmp_ge (tgt := 33) dX7_totalLength_9 (by decide) (fun c1 => ?_) (fun c1 => ?_)
  · refine mW_iload_n (j := 1) dX7_totalLength_33 rfl rfl ?_
    exact mW_iret dX7_totalLength_34 rfl (k1 c1)
  · refine mW_iload_n (j := 2) dX7_totalLength_12 rfl rfl ?_
    refine mW_bipush (v := 8) dX7_totalLength_13 (by decide) ?_
    refine mW_icmp_ge (tgt := 33) dX7_totalLength_15 (by decide) (fun c2 => ?_) (fun c2 => ?_)
    · refine mW_iload_n (j := 1) dX7_totalLength_33 rfl rfl ?_
      exact mW_iret dX7_totalLength_34 rfl (k2 c1 c2)
    · refine mW_iload_n (j := 1) dX7_totalLength_18 rfl rfl ?_
      refine mW_aload_n (j := 0) dX7_totalLength_19 rfl rfl ?_
      refine mW_getR dX7_totalLength_20 f_X7_15 h1 rfl h2 ?_
      refine mW_iload_n (j := 2) dX7_totalLength_23 rfl rfl ?_
      refine mW_ialdJ dX7_totalLength_24 h3 (s1 c1 c2) rfl ?_
      refine mW_iadd dX7_totalLength_25 ?_
      refine mW_istore_n (lv2 := [(1, .int (x1 + (hai w a0_1 x2.toNatClampNeg))), (0, .ref a0), (2, .int x2)]) dX7_totalLength_26 rfl (by decide) rfl ?_
      refine mW_iinc (j := 2) (v := x2 + 1) (lv2 := [(2, .int (x2 + 1)), (1, .int (x1 + (hai w a0_1 x2.toNatClampNeg))), (0, .ref a0)]) dX7_totalLength_27 rfl rfl (by decide) rfl ?_
      refine mW_goto (tgt := 4) dX7_totalLength_30 (by decide) ?_
      refine mW_loc [2, 1, 0] (lv2 := [(0, .ref a0), (1, .int (x1 + (hai w a0_1 x2.toNatClampNeg))), (2, .int (x2 + 1))]) rfl ?_
      exact k3 c1 c2
abbrev mX7_curvatureAt : mM := (yX7_curvatureAt, cX7_curvatureAt, 4, (some .int), [])
set_option maxHeartbeats 4000000 in
set_option maxRecDepth 100000 in
theorem gX7_curvatureAt_0 {G : mG} {w : mH} {Φ : mF} {a0 : Nat} {x1 : Int32}  (k1 : mW G mX7_curvatureAt 2 0 0 4 [(0, .ref a0), (1, .int x1), (2, .int x1), (3, .int 0)] [] w Φ) : mW G mX7_curvatureAt 2 0 0 0 [(0, .ref a0), (1, .int x1)] [] w Φ := by
  refine mW_iload_n (j := 1) dX7_curvatureAt_0 rfl rfl ?_
  refine mW_istore_n (lv2 := [(2, .int x1), (0, .ref a0), (1, .int x1)]) dX7_curvatureAt_1 rfl (by decide) rfl ?_
  refine mW_iconst (v := 0) dX7_curvatureAt_2 (by decide) ?_
  refine mW_istore_n (lv2 := [(3, .int 0), (2, .int x1), (0, .ref a0), (1, .int x1)]) dX7_curvatureAt_3 rfl (by decide) rfl ?_
  refine mW_loc [2, 3, 1, 0] (lv2 := [(0, .ref a0), (1, .int x1), (2, .int x1), (3, .int 0)]) rfl ?_
  exact k1
theorem u517 : (Cond.code ⟨"LineFollowerBench$Track", "curvatureInside", "(II)I"⟩ prog_9_method_8_code 3 (some .int) : Cond) ∈ mTs := mTs_in 517 (by decide +kernel) (by decide +kernel)
theorem u74 : (Cond.initialized "LineFollowerBench$Track" : Cond) ∈ mTs := mTs_in 74 (by decide +kernel) (by decide +kernel)
theorem co_X7_curvatureInside : mCode mX7_curvatureInside := ⟨u517, u74, by decide⟩
theorem u514 : (Cond.methodLink "LineFollowerBench$Track" 37 ⟨"LineFollowerBench$Track", "curvatureInside", "(II)I"⟩ : Cond) ∈ mTs := mTs_in 514 (by decide +kernel) (by decide +kernel)
theorem u516 : (Cond.instanceMethod ⟨"LineFollowerBench$Track", "curvatureInside", "(II)I"⟩ : Cond) ∈ mTs := mTs_in 516 (by decide +kernel) (by decide +kernel)
theorem u0 : (Cond.selects "LineFollowerBench$Track" ⟨"LineFollowerBench$Track", "curvatureInside", "(II)I"⟩ ⟨"LineFollowerBench$Track", "curvatureInside", "(II)I"⟩ : Cond) ∈ mTs := mTs_in 0 (by decide +kernel) (by decide +kernel)
theorem l_X7_37 : mLinkV "LineFollowerBench$Track" 37 2 mX7_curvatureInside := ⟨⟨by decide, by decide, by decide +kernel⟩, co_X7_curvatureInside, u514, u516, u0⟩
set_option maxHeartbeats 4000000 in
set_option maxRecDepth 100000 in
theorem gX7_curvatureAt_4 {G : mG} {w : mH} {Φ : mF} {a0 : Nat} {x1 x2 x3 : Int32} {a0_1 n_a0_1 a0_0 n_a0_0 a0_2 n_a0_2 : Nat} (h1 : hk w a0 = (7, 0)) (h2 : hfr w a0 1 = some a0_1) (h3 : hk w a0_1 = (16, n_a0_1)) (s1 : (¬ ((hfi w a0 3) ≤ x3)) → (¬ (8 ≤ x3)) → vp_in x3 n_a0_1) (h4 : hfr w a0 0 = some a0_0) (h5 : hk w a0_0 = (16, n_a0_0)) (s2 : (¬ ((hfi w a0 3) ≤ x3)) → (¬ (8 ≤ x3)) → (¬ ((hai w a0_1 x3.toNatClampNeg) ≤ x2)) → vp_in x3 n_a0_0) (h6 : hfr w a0 2 = some a0_2) (h7 : hk w a0_2 = (16, n_a0_2)) (s3 : (¬ ((hfi w a0 3) ≤ x3)) → (¬ (8 ≤ x3)) → (¬ ((hai w a0_1 x3.toNatClampNeg) ≤ x2)) → (¬ ((hai w a0_0 x3.toNatClampNeg) = 2)) → ((hai w a0_0 x3.toNatClampNeg) = 1) → vp_in x3 n_a0_2) (s4 : (¬ ((hfi w a0 3) ≤ x3)) → (¬ (8 ≤ x3)) → (¬ ((hai w a0_1 x3.toNatClampNeg) ≤ x2)) → ((hai w a0_0 x3.toNatClampNeg) = 2) → vp_in x3 n_a0_1) (s5 : (¬ ((hfi w a0 3) ≤ x3)) → (¬ (8 ≤ x3)) → (¬ ((hai w a0_1 x3.toNatClampNeg) ≤ x2)) → ((hai w a0_0 x3.toNatClampNeg) = 2) → ((hai w a0_1 x3.toNatClampNeg) ≤ 0) → ((hai w a0_0 x3.toNatClampNeg) = 1) → vp_in x3 n_a0_2) (s6 : (¬ ((hfi w a0 3) ≤ x3)) → (¬ (8 ≤ x3)) → (¬ ((hai w a0_1 x3.toNatClampNeg) ≤ x2)) → ((hai w a0_0 x3.toNatClampNeg) = 2) → (¬ ((hai w a0_1 x3.toNatClampNeg) ≤ 0)) → vp_in x3 n_a0_2) (s7 : (¬ ((hfi w a0 3) ≤ x3)) → (¬ (8 ≤ x3)) → (¬ ((hai w a0_1 x3.toNatClampNeg) ≤ x2)) → ((hai w a0_0 x3.toNatClampNeg) = 2) → (¬ ((hai w a0_1 x3.toNatClampNeg) ≤ 0)) → ¬ (hai w a0_1 x3.toNatClampNeg) = 0) (k1 : ((hfi w a0 3) ≤ x3) → Φ (.inl (some (.int 0))) w) (k2 : (¬ ((hfi w a0 3) ≤ x3)) → (8 ≤ x3) → Φ (.inl (some (.int 0))) w) (k3 : (¬ ((hfi w a0 3) ≤ x3)) → (¬ (8 ≤ x3)) → ((hai w a0_1 x3.toNatClampNeg) ≤ x2) → mW G mX7_curvatureAt 2 0 0 4 [(0, .ref a0), (1, .int x1), (2, .int (x2 - (hai w a0_1 x3.toNatClampNeg))), (3, .int (x3 + 1))] [] w Φ) (k4 : (¬ ((hfi w a0 3) ≤ x3)) → (¬ (8 ≤ x3)) → (¬ ((hai w a0_1 x3.toNatClampNeg) ≤ x2)) → Φ (.inl (some (.int (vX7_curvatureInside w x3 x2 a0_0 a0_2 a0_1)))) w) : mW G mX7_curvatureAt 2 0 0 4 [(0, .ref a0), (1, .int x1), (2, .int x2), (3, .int x3)] [] w Φ := by
  refine mW_iload_n (j := 3) dX7_curvatureAt_4 rfl rfl ?_
  refine mW_aload_n (j := 0) dX7_curvatureAt_5 rfl rfl ?_
  refine mW_get dX7_curvatureAt_6 f_X7_21 h1 rfl ?_
  refine mW_icmp_ge (tgt := 50) dX7_curvatureAt_9 (by decide) (fun c1 => ?_) (fun c1 => ?_)
  · refine mW_iconst (v := 0) dX7_curvatureAt_50 (by decide) ?_
    exact mW_iret dX7_curvatureAt_51 rfl (k1 c1)
  · refine mW_iload_n (j := 3) dX7_curvatureAt_12 rfl rfl ?_
    refine mW_bipush (v := 8) dX7_curvatureAt_13 (by decide) ?_
    refine mW_icmp_ge (tgt := 50) dX7_curvatureAt_15 (by decide) (fun c2 => ?_) (fun c2 => ?_)
    · refine mW_iconst (v := 0) dX7_curvatureAt_50 (by decide) ?_
      exact mW_iret dX7_curvatureAt_51 rfl (k2 c1 c2)
    · refine mW_iload_n (j := 2) dX7_curvatureAt_18 rfl rfl ?_
      refine mW_aload_n (j := 0) dX7_curvatureAt_19 rfl rfl ?_
      refine mW_getR dX7_curvatureAt_20 f_X7_15 h1 rfl h2 ?_
      refine mW_iload_n (j := 3) dX7_curvatureAt_23 rfl rfl ?_
      refine mW_ialdJ dX7_curvatureAt_24 h3 (s1 c1 c2) rfl ?_
      refine mW_icmp_ge (tgt := 35) dX7_curvatureAt_25 (by decide) (fun c3 => ?_) (fun c3 => ?_)
      · refine mW_iload_n (j := 2) dX7_curvatureAt_35 rfl rfl ?_
        refine mW_aload_n (j := 0) dX7_curvatureAt_36 rfl rfl ?_
        refine mW_getR dX7_curvatureAt_37 f_X7_15 h1 rfl h2 ?_
        refine mW_iload_n (j := 3) dX7_curvatureAt_40 rfl rfl ?_
        refine mW_ialdJ dX7_curvatureAt_41 h3 (s1 c1 c2) rfl ?_
        refine mW_isub dX7_curvatureAt_42 ?_
        refine mW_istore_n (lv2 := [(2, .int (x2 - (hai w a0_1 x3.toNatClampNeg))), (0, .ref a0), (1, .int x1), (3, .int x3)]) dX7_curvatureAt_43 rfl (by decide) rfl ?_
        refine mW_iinc (j := 3) (v := x3 + 1) (lv2 := [(3, .int (x3 + 1)), (2, .int (x2 - (hai w a0_1 x3.toNatClampNeg))), (0, .ref a0), (1, .int x1)]) dX7_curvatureAt_44 rfl rfl (by decide) rfl ?_
        refine mW_goto (tgt := 4) dX7_curvatureAt_47 (by decide) ?_
        refine mW_loc [2, 3, 1, 0] (lv2 := [(0, .ref a0), (1, .int x1), (2, .int (x2 - (hai w a0_1 x3.toNatClampNeg))), (3, .int (x3 + 1))]) rfl ?_
        exact k3 c1 c2 c3
      · refine mW_aload_n (j := 0) dX7_curvatureAt_28 rfl rfl ?_
        refine mW_iload_n (j := 3) dX7_curvatureAt_29 rfl rfl ?_
        refine mW_iload_n (j := 2) dX7_curvatureAt_30 rfl rfl ?_
        refine mW_callVe (As := [.int x3, .int x2]) (rest := []) (kc2 := 0) (ks2 := 0) dX7_curvatureAt_31 l_X7_37 rfl h1 rfl (by decide) (qX7_curvatureInside (w := w) (a0 := a0) (x1 := x3) (x2 := x2) h1 h4 h5 (s2 c1 c2 c3) h6 h7 (s3 c1 c2 c3) h2 h3 (s4 c1 c2 c3) (s5 c1 c2 c3) (s6 c1 c2 c3) (s7 c1 c2 c3)) (Nat.le_of_ble_eq_true rfl) (by decide) rfl rfl ?_
        exact mW_iret dX7_curvatureAt_34 rfl (k4 c1 c2 c3)
abbrev mX7_pushAt : mM := (yX7_pushAt, cX7_pushAt, 4, (some .int), [])
set_option maxHeartbeats 4000000 in
set_option maxRecDepth 100000 in
theorem gX7_pushAt_0 {G : mG} {w : mH} {Φ : mF} {a0 : Nat} {x1 : Int32}  (k1 : mW G mX7_pushAt 2 0 0 4 [(0, .ref a0), (1, .int x1), (2, .int 0), (3, .int 0)] [] w Φ) : mW G mX7_pushAt 2 0 0 0 [(0, .ref a0), (1, .int x1)] [] w Φ := by
  refine mW_iconst (v := 0) dX7_pushAt_0 (by decide) ?_
  refine mW_istore_n (lv2 := [(2, .int 0), (0, .ref a0), (1, .int x1)]) dX7_pushAt_1 rfl (by decide) rfl ?_
  refine mW_iconst (v := 0) dX7_pushAt_2 (by decide) ?_
  refine mW_istore_n (lv2 := [(3, .int 0), (2, .int 0), (0, .ref a0), (1, .int x1)]) dX7_pushAt_3 rfl (by decide) rfl ?_
  refine mW_loc [2, 3, 1, 0] (lv2 := [(0, .ref a0), (1, .int x1), (2, .int 0), (3, .int 0)]) rfl ?_
  exact k1
theorem v522 : (Cond.methodLinkNest "LineFollowerBench$Track" 41 ⟨"LineFollowerBench", "isWithin", "(III)Z"⟩ "LineFollowerBench" : Cond) ∈ lw_tbl := List.mem_of_getElem? (i := 522) (by decide +kernel)
theorem l_X7_41 : mLinkSN "LineFollowerBench$Track" 41 3 mX10_isWithin "LineFollowerBench" := ⟨⟨by decide, by decide, by decide +kernel⟩, co_X10_isWithin, v522, u523⟩
set_option maxHeartbeats 4000000 in
set_option maxRecDepth 100000 in
theorem gX7_pushAt_4 {G : mG} {w : mH} {Φ : mF} {a0 : Nat} {x1 x2 x3 : Int32} {a0_4 n_a0_4 a0_6 n_a0_6 a0_5 n_a0_5 : Nat} (h1 : hk w a0 = (7, 0)) (h2 : hfr w a0 4 = some a0_4) (h3 : hk w a0_4 = (16, n_a0_4)) (s1 : (¬ ((hfi w a0 7) ≤ x3)) → (¬ (4 ≤ x3)) → vp_in x3 n_a0_4) (h4 : hfr w a0 6 = some a0_6) (h5 : hk w a0_6 = (16, n_a0_6)) (s2 : (¬ ((hfi w a0 7) ≤ x3)) → (¬ (4 ≤ x3)) → vp_in x3 n_a0_6) (h6 : hfr w a0 5 = some a0_5) (h7 : hk w a0_5 = (16, n_a0_5)) (s3 : (¬ ((hfi w a0 7) ≤ x3)) → (¬ (4 ≤ x3)) → (¬ ((vX10_isWithin (x1 - (hai w a0_4 x3.toNatClampNeg)) 0 ((hai w a0_6 x3.toNatClampNeg) - 1)) = 0)) → vp_in x3 n_a0_5) (k1 : ((hfi w a0 7) ≤ x3) → Φ (.inl (some (.int x2))) w) (k2 : (¬ ((hfi w a0 7) ≤ x3)) → (4 ≤ x3) → Φ (.inl (some (.int x2))) w) (k3 : (¬ ((hfi w a0 7) ≤ x3)) → (¬ (4 ≤ x3)) → ((vX10_isWithin (x1 - (hai w a0_4 x3.toNatClampNeg)) 0 ((hai w a0_6 x3.toNatClampNeg) - 1)) = 0) → mW G mX7_pushAt 2 0 0 4 [(0, .ref a0), (1, .int x1), (2, .int x2), (3, .int (x3 + 1))] [] w Φ) (k4 : (¬ ((hfi w a0 7) ≤ x3)) → (¬ (4 ≤ x3)) → (¬ ((vX10_isWithin (x1 - (hai w a0_4 x3.toNatClampNeg)) 0 ((hai w a0_6 x3.toNatClampNeg) - 1)) = 0)) → mW G mX7_pushAt 2 0 0 4 [(0, .ref a0), (1, .int x1), (2, .int (x2 + (hai w a0_5 x3.toNatClampNeg))), (3, .int (x3 + 1))] [] w Φ) : mW G mX7_pushAt 2 0 0 4 [(0, .ref a0), (1, .int x1), (2, .int x2), (3, .int x3)] [] w Φ := by
  refine mW_iload_n (j := 3) dX7_pushAt_4 rfl rfl ?_
  refine mW_aload_n (j := 0) dX7_pushAt_5 rfl rfl ?_
  refine mW_get dX7_pushAt_6 f_X7_34 h1 rfl ?_
  refine mW_icmp_ge (tgt := 55) dX7_pushAt_9 (by decide) (fun c1 => ?_) (fun c1 => ?_)
  · refine mW_iload_n (j := 2) dX7_pushAt_55 rfl rfl ?_
    exact mW_iret dX7_pushAt_56 rfl (k1 c1)
  · refine mW_iload_n (j := 3) dX7_pushAt_12 rfl rfl ?_
    refine mW_iconst (v := 4) dX7_pushAt_13 (by decide) ?_
    refine mW_icmp_ge (tgt := 55) dX7_pushAt_14 (by decide) (fun c2 => ?_) (fun c2 => ?_)
    · refine mW_iload_n (j := 2) dX7_pushAt_55 rfl rfl ?_
      exact mW_iret dX7_pushAt_56 rfl (k2 c1 c2)
    · refine mW_iload_n (j := 1) dX7_pushAt_17 rfl rfl ?_
      refine mW_aload_n (j := 0) dX7_pushAt_18 rfl rfl ?_
      refine mW_getR dX7_pushAt_19 f_X7_25 h1 rfl h2 ?_
      refine mW_iload_n (j := 3) dX7_pushAt_22 rfl rfl ?_
      refine mW_ialdJ dX7_pushAt_23 h3 (s1 c1 c2) rfl ?_
      refine mW_isub dX7_pushAt_24 ?_
      refine mW_iconst (v := 0) dX7_pushAt_25 (by decide) ?_
      refine mW_aload_n (j := 0) dX7_pushAt_26 rfl rfl ?_
      refine mW_getR dX7_pushAt_27 f_X7_31 h1 rfl h4 ?_
      refine mW_iload_n (j := 3) dX7_pushAt_30 rfl rfl ?_
      refine mW_ialdJ dX7_pushAt_31 h5 (s2 c1 c2) rfl ?_
      refine mW_iconst (v := 1) dX7_pushAt_32 (by decide) ?_
      refine mW_isub dX7_pushAt_33 ?_
      refine mW_callSNe (As := [.int (x1 - (hai w a0_4 x3.toNatClampNeg)), .int 0, .int ((hai w a0_6 x3.toNatClampNeg) - 1)]) (rest := []) (kc2 := 0) (ks2 := 0) dX7_pushAt_34 l_X7_41 rfl (qX10_isWithin (w := w) (x0 := x1 - (hai w a0_4 x3.toNatClampNeg)) (x1 := 0) (x2 := (hai w a0_6 x3.toNatClampNeg) - 1)) (Nat.le_of_ble_eq_true rfl) (by decide) rfl rfl ?_
      refine mW_if_eq (tgt := 49) dX7_pushAt_37 (by decide) (fun c3 => ?_) (fun c3 => ?_)
      · refine mW_iinc (j := 3) (v := x3 + 1) (lv2 := [(3, .int (x3 + 1)), (0, .ref a0), (1, .int x1), (2, .int x2)]) dX7_pushAt_49 rfl rfl (by decide) rfl ?_
        refine mW_goto (tgt := 4) dX7_pushAt_52 (by decide) ?_
        refine mW_loc [1, 2, 3, 0] (lv2 := [(0, .ref a0), (1, .int x1), (2, .int x2), (3, .int (x3 + 1))]) rfl ?_
        exact k3 c1 c2 c3
      · refine mW_iload_n (j := 2) dX7_pushAt_40 rfl rfl ?_
        refine mW_aload_n (j := 0) dX7_pushAt_41 rfl rfl ?_
        refine mW_getR dX7_pushAt_42 f_X7_28 h1 rfl h6 ?_
        refine mW_iload_n (j := 3) dX7_pushAt_45 rfl rfl ?_
        refine mW_ialdJ dX7_pushAt_46 h7 (s3 c1 c2 c3) rfl ?_
        refine mW_iadd dX7_pushAt_47 ?_
        refine mW_istore_n (lv2 := [(2, .int (x2 + (hai w a0_5 x3.toNatClampNeg))), (0, .ref a0), (1, .int x1), (3, .int x3)]) dX7_pushAt_48 rfl (by decide) rfl ?_
        refine mW_iinc (j := 3) (v := x3 + 1) (lv2 := [(3, .int (x3 + 1)), (2, .int (x2 + (hai w a0_5 x3.toNatClampNeg))), (0, .ref a0), (1, .int x1)]) dX7_pushAt_49 rfl rfl (by decide) rfl ?_
        refine mW_goto (tgt := 4) dX7_pushAt_52 (by decide) ?_
        refine mW_loc [2, 3, 1, 0] (lv2 := [(0, .ref a0), (1, .int x1), (2, .int (x2 + (hai w a0_5 x3.toNatClampNeg))), (3, .int (x3 + 1))]) rfl ?_
        exact k4 c1 c2 c3
theorem qX5_indexOf {G : mG} {w : mH} {a0 p v n : Nat} {x1 : Int32} (T : bAt w a0 p v n) : mC G mX5_indexOf 1 0 0 [.ref a0, .int x1] w (mEq (.inl (some (.int (fIdx (hai w p) x1 n 0)))) w) := by
  obtain ⟨h1, h2, h3, h4, h5, hN, hb⟩ := T
  refine mC_of (by decide +kernel) rfl (Nat.le_of_ble_eq_true rfl) rfl ?_
  refine gX5_indexOf_0 ?_
  have key := m_up0 (N := n) (P := fun i => mW G mX5_indexOf 1 0 0 2 [(0, .ref a0), (1, .int x1), (2, .int (nI i))] [] w (mEq (.inl (some (.int (fIdx (hai w p) x1 (n - i) i)))) w)) ?_ ?_ 0 (by omega)
  · exact key
  · refine gX5_indexOf_2 h1 h2 h3 (fun c1 c2 => ?_) (fun c1 => ?_) (fun c1 c2 => ?_) (fun c1 c2 c3 => ?_) (fun c1 c2 c3 => ?_)
    all_goals first | (rw [Nat.sub_self]; exact mEq_rf) | (rw [hN, m_le (by omega) (by omega)] at c1; omega)
  · intro i hi ih
    have e1 : n - i = (n - (i + 1)) + 1 := by omega
    rw [e1]
    refine gX5_indexOf_2 h1 h2 h3 (fun c1 c2 => m_vp (by omega) (by omega)) (fun c1 => ?_) (fun c1 c2 => ?_) (fun c1 c2 c3 => ?_) (fun c1 c2 c3 => ?_)
    · rw [hN, m_le (by omega) (by omega)] at c1; omega
    · rw [m_5 (by omega)] at c2; omega
    · rw [m_cl (by omega)] at c3
      rw [nI_1, fIdx, if_neg c3]; exact ih
    · rw [m_cl (by omega)] at c3
      rw [fIdx, if_pos c3]; exact mEq_rf
theorem fBet_v {w : mH} {p v i : Nat} {x : Int32} (hi : i ≤ 1000) : vX5_valueBetween w (nI i) (nI (i + 1)) x p v = fBet (hai w p) (hai w v) i x := by
  simp only [vX5_valueBetween, fBet, m_cl (show i ≤ 70000 by omega), m_cl (show i + 1 ≤ 70000 by omega)]
theorem qX5_rawOutput {G : mG} {w : mH} {a0 p v n : Nat} {x1 : Int32} (T : bAt w a0 p v n) : mC G mX5_rawOutput 2 0 0 [.ref a0, .int x1] w (mEq (.inl (some (.int (fRaw (hai w p) (hai w v) n x1)))) w) := by
  obtain ⟨h1, h2, h3, h4, h5, hN, hb⟩ := T
  refine mC_of (by decide +kernel) rfl (Nat.le_of_ble_eq_true rfl) rfl ?_
  refine gX5_rawOutput_0 h1 h2 h3 (fun c1 c2 => m_vp (a := 0) (by omega) (by omega)) h4 h5 (fun c1 c2 c3 => m_vp (a := 0) (by omega) (by omega)) (fun c1 => ⟨?_, rfl⟩) (fun c1 c2 c3 => ?_) (fun c1 c2 c3 => ⟨?_, rfl⟩) (fun c1 c2 => ?_)
  · rw [hN, m_le0 (by omega)] at c1
    rw [fRaw, if_pos c1]
  · rw [hN, m_le0 (by omega)] at c1
    have key := m_up0 (N := n - 1) (P := fun i => mW G mX5_rawOutput 2 0 0 36 [(0, .ref a0), (1, .int x1), (2, .int (nI (i + 1)))] [] w (mEq (.inl (some (.int (fRawL (hai w p) (hai w v) n x1 (n - 1 - i) i)))) w)) ?_ ?_ 0 (by omega)
    · rw [fRaw, if_neg c1, if_pos c3]; exact key
    · have e2 : n - 1 + 1 = n := by omega
      have e3 : (nI n - 1).toNatClampNeg = n - 1 := by rw [← e2, m_sub1, m_cl (by omega)]; rfl
      refine gX5_rawOutput_36 h1 h4 h5 (fun c4 => ?_) (fun c4 c5 => ?_) h2 h3 (fun c4 c5 => ?_) (fun c4 c5 c6 => ?_) (fun c4 c5 c6 => ?_) (fun c4 c5 c6 => ?_) (fun c4 c5 c6 c7 => ?_) (fun c4 => ?_) (fun c4 c5 => ?_) (fun c4 c5 c6 => ?_) (fun c4 c5 c6 => ?_)
      · rw [hN, ← e2, m_sub1]; exact m_vp (by omega) (by omega)
      all_goals first | (rw [hN, e3, Nat.sub_self]; exact mEq_rf) | (rw [hN, m_le (by omega) (by omega)] at c4; omega)
    · intro i hi ih
      have e1 : n - 1 - i = (n - 1 - (i + 1)) + 1 := by omega
      rw [e1]
      refine gX5_rawOutput_36 h1 h4 h5 (fun c4 => ?_) (fun c4 c5 => ?_) h2 h3 (fun c4 c5 => m_vp (by omega) (by omega)) (fun c4 c5 c6 => by rw [m_sub1]; exact m_vp (by omega) (by omega)) (fun c4 c5 c6 => m_vp (by omega) (by omega)) (fun c4 c5 c6 => by rw [m_sub1]; exact m_vp (by omega) (by omega)) (fun c4 c5 c6 c7 h0 => c7 (by rw [h0]; decide)) (fun c4 => ?_) (fun c4 c5 => ?_) (fun c4 c5 c6 => ?_) (fun c4 c5 c6 => ?_)
      · rw [hN, m_le (by omega) (by omega)] at c4; omega
      · rw [m_5 (by omega)] at c5; omega
      · rw [hN, m_le (by omega) (by omega)] at c4; omega
      · rw [m_5 (by omega)] at c5; omega
      · rw [m_cl (by omega)] at c6
        rw [nI_1, fRawL, if_pos c6]; exact ih
      · rw [m_cl (by omega)] at c6
        rw [m_sub1, fBet_v (by omega), fRawL, if_neg c6]; exact mEq_rf
  · rw [hN, m_le0 (by omega)] at c1
    rw [fRaw, if_neg c1, if_neg c3]
  · rw [hN] at c2
    exact absurd ((m_le (b := 5) (by omega) (by omega)).mpr hb) c2
theorem qX7_totalLength {G : mG} {w : mH} {a0 n m : Nat} {r : Nat → Nat} (T : kAt w a0 r n m) : mC G mX7_totalLength 1 0 0 [.ref a0] w (mEq (.inl (some (.int (fLen (hai w (r 1)) n)))) w) := by
  obtain ⟨h1, hr, h3, h4, hN, hb, hM, hc⟩ := T
  refine mC_of (by decide +kernel) rfl (Nat.le_of_ble_eq_true rfl) rfl ?_
  refine gX7_totalLength_0 ?_
  refine m_up0 (N := n) (P := fun i => mW G mX7_totalLength 1 0 0 4 [(0, .ref a0), (1, .int (fLen (hai w (r 1)) i)), (2, .int (nI i))] [] w _) ?_ ?_ 0 (by omega)
  · refine gX7_totalLength_4 h1 (hr 1 (by decide) (by decide)) (h3 1 (by decide)) (fun c1 c2 => ?_) (fun c1 => mEq_rf) (fun c1 c2 => mEq_rf) (fun c1 c2 => ?_)
    all_goals (rw [hN, m_le (by omega) (by omega)] at c1; omega)
  · intro i hi ih
    refine gX7_totalLength_4 h1 (hr 1 (by decide) (by decide)) (h3 1 (by decide)) (fun c1 c2 => m_vp (by omega) (by omega)) (fun c1 => ?_) (fun c1 c2 => ?_) (fun c1 c2 => ?_)
    · rw [hN, m_le (by omega) (by omega)] at c1; omega
    · rw [m_8 (by omega)] at c2; omega
    · rw [m_cl (by omega), nI_1]; exact ih
theorem fCin_v {w : mH} {i : Nat} {x : Int32} {r : Nat → Nat} (hi : i ≤ 1000) : vX7_curvatureInside w (nI i) x (r 0) (r 2) (r 1) = fCin (hai w (r 0)) (hai w (r 1)) (hai w (r 2)) i x := by
  simp only [vX7_curvatureInside, fCin, m_cl (show i ≤ 70000 by omega)]
  try (split <;> rename_i h <;> simp [h])
theorem qX7_curvatureAt {G : mG} {w : mH} {a0 n m : Nat} {r : Nat → Nat} {x1 : Int32} (T : kAt w a0 r n m) : mC G mX7_curvatureAt 2 0 0 [.ref a0, .int x1] w (mEq (.inl (some (.int (fCur (hai w (r 0)) (hai w (r 1)) (hai w (r 2)) n 0 x1)))) w) := by
  obtain ⟨h1, hr, h3, h4, hN, hb, hM, hc⟩ := T
  refine mC_of (by decide +kernel) rfl (Nat.le_of_ble_eq_true rfl) rfl ?_
  refine gX7_curvatureAt_0 ?_
  have key := m_up0 (N := n) (P := fun i => ∀ x : Int32, mW G mX7_curvatureAt 2 0 0 4 [(0, .ref a0), (1, .int x1), (2, .int x), (3, .int (nI i))] [] w (mEq (.inl (some (.int (fCur (hai w (r 0)) (hai w (r 1)) (hai w (r 2)) (n - i) i x)))) w)) ?_ ?_ 0 (by omega)
  · exact key x1
  · intro x
    refine gX7_curvatureAt_4 h1 (hr 1 (by decide) (by decide)) (h3 1 (by decide)) (fun c1 c2 => ?_) (hr 0 (by decide) (by decide)) (h3 0 (by decide)) (fun c1 c2 c3 => ?_) (hr 2 (by decide) (by decide)) (h3 2 (by decide)) (fun c1 c2 c3 c4 c5 => ?_) (fun c1 c2 c3 c4 => ?_) (fun c1 c2 c3 c4 c5 c6 => ?_) (fun c1 c2 c3 c4 c5 => ?_) (fun c1 c2 c3 c4 c5 => ?_) (fun c1 => ?_) (fun c1 c2 => ?_) (fun c1 c2 c3 => ?_) (fun c1 c2 c3 => ?_)
    all_goals first | (rw [Nat.sub_self]; exact mEq_rf) | (rw [hN, m_le (by omega) (by omega)] at c1; omega)
  · intro i hi ih x
    have e1 : n - i = (n - (i + 1)) + 1 := by omega
    rw [e1]
    have hv : vp_in (nI i) 8 := m_vp (by omega) (by omega)
    refine gX7_curvatureAt_4 h1 (hr 1 (by decide) (by decide)) (h3 1 (by decide)) (fun c1 c2 => hv) (hr 0 (by decide) (by decide)) (h3 0 (by decide)) (fun c1 c2 c3 => hv) (hr 2 (by decide) (by decide)) (h3 2 (by decide)) (fun c1 c2 c3 c4 c5 => hv) (fun c1 c2 c3 c4 => hv) (fun c1 c2 c3 c4 c5 c6 => hv) (fun c1 c2 c3 c4 c5 => hv) (fun c1 c2 c3 c4 c5 h0 => c5 (by rw [h0]; decide)) (fun c1 => ?_) (fun c1 c2 => ?_) (fun c1 c2 c3 => ?_) (fun c1 c2 c3 => ?_)
    · rw [hN, m_le (by omega) (by omega)] at c1; omega
    · rw [m_8 (by omega)] at c2; omega
    · rw [m_cl (by omega)] at c3 ⊢
      rw [nI_1, fCur, if_pos c3]; exact ih _
    · rw [m_cl (by omega)] at c3
      rw [fCin_v (by omega), fCur, if_neg c3]; exact mEq_rf
theorem qX7_pushAt {G : mG} {w : mH} {a0 n m : Nat} {r : Nat → Nat} {x1 : Int32} (T : kAt w a0 r n m) : mC G mX7_pushAt 2 0 0 [.ref a0, .int x1] w (mEq (.inl (some (.int (fPus (hai w (r 4)) (hai w (r 5)) (hai w (r 6)) x1 m)))) w) := by
  obtain ⟨h1, hr, h3, h4, hN, hb, hM, hc⟩ := T
  refine mC_of (by decide +kernel) rfl (Nat.le_of_ble_eq_true rfl) rfl ?_
  refine gX7_pushAt_0 ?_
  refine m_up0 (N := m) (P := fun i => mW G mX7_pushAt 2 0 0 4 [(0, .ref a0), (1, .int x1), (2, .int (fPus (hai w (r 4)) (hai w (r 5)) (hai w (r 6)) x1 i)), (3, .int (nI i))] [] w _) ?_ ?_ 0 (by omega)
  · refine gX7_pushAt_4 h1 (hr 4 (by decide) (by decide)) (h4 4 (by decide) (by decide)) (fun c1 c2 => ?_) (hr 6 (by decide) (by decide)) (h4 6 (by decide) (by decide)) (fun c1 c2 => ?_) (hr 5 (by decide) (by decide)) (h4 5 (by decide) (by decide)) (fun c1 c2 c3 => ?_) (fun c1 => mEq_rf) (fun c1 c2 => mEq_rf) (fun c1 c2 c3 => ?_) (fun c1 c2 c3 => ?_)
    all_goals (rw [hM, m_le (by omega) (by omega)] at c1; omega)
  · intro i hi ih
    have hv : vp_in (nI i) 4 := m_vp (by omega) (by omega)
    refine gX7_pushAt_4 h1 (hr 4 (by decide) (by decide)) (h4 4 (by decide) (by decide)) (fun c1 c2 => hv) (hr 6 (by decide) (by decide)) (h4 6 (by decide) (by decide)) (fun c1 c2 => hv) (hr 5 (by decide) (by decide)) (h4 5 (by decide) (by decide)) (fun c1 c2 c3 => hv) (fun c1 => ?_) (fun c1 c2 => ?_) (fun c1 c2 c3 => ?_) (fun c1 c2 c3 => ?_)
    · rw [hM, m_le (by omega) (by omega)] at c1; omega
    · rw [m_4 (by omega)] at c2; omega
    · rw [m_cl (by omega)] at c3
      have e1 : fPus (hai w (r 4)) (hai w (r 5)) (hai w (r 6)) x1 (i + 1) = fPus (hai w (r 4)) (hai w (r 5)) (hai w (r 6)) x1 i := by rw [fPus]; exact if_pos c3
      rw [nI_1, ← e1]; exact ih
    · rw [m_cl (by omega)] at c3
      have e1 : fPus (hai w (r 4)) (hai w (r 5)) (hai w (r 6)) x1 (i + 1) = fPus (hai w (r 4)) (hai w (r 5)) (hai w (r 6)) x1 i + hai w (r 5) i := by rw [fPus]; exact if_neg c3
      rw [nI_1, m_cl (by omega), ← e1]; exact ih
