/-! the measures of a trace (class Trace), loops by hand -/
theorem m_up {N : Nat} {P : Nat → Prop} (base : P (N + 1)) (step : ∀ i, i ≤ N → P (i + 1) → P i) : ∀ i, i ≤ N + 1 → P i := by
  have key : ∀ j i, i + j = N + 1 → P i := by
    intro j
    induction j with
    | zero => intro i h; have e : i = N + 1 := by omega
              subst e; exact base
    | succ j ih => intro i h; exact step i (by omega) (ih (i + 1) (by omega))
  exact fun i h => key (N + 1 - i) i (by omega)
theorem m_up0 {N : Nat} {P : Nat → Prop} (base : P N) (step : ∀ i, i < N → P (i + 1) → P i) : ∀ i, i ≤ N → P i := by
  have key : ∀ j i, i + j = N → P i := by
    intro j
    induction j with
    | zero => intro i h; have e : i = N := by omega
              subst e; exact base
    | succ j ih => intro i h; exact step i (by omega) (ih (i + 1) (by omega))
  exact fun i h => key (N - i) i (by omega)
theorem m_lt {a b : Nat} (ha : a ≤ 70000) (hb : b ≤ 70000) : nI a < nI b ↔ a < b := nI_ltI (by omega) (by omega)
theorem m_le {a b : Nat} (ha : a ≤ 70000) (hb : b ≤ 70000) : nI a ≤ nI b ↔ a ≤ b := nI_leI (by omega) (by omega)
theorem m_cl {a : Nat} (ha : a ≤ 70000) : (nI a).toNatClampNeg = a := nI_clamp (by omega)
theorem m_lit (n : Nat) : (OfNat.ofNat n : Int32) = nI n := rfl
theorem m_200 {a : Nat} (ha : a ≤ 70000) : (200 : Int32) < nI a ↔ 200 < a := m_lt (a := 200) (by omega) ha
theorem m_200' {a : Nat} (ha : a ≤ 70000) : (200 : Int32) ≤ nI a ↔ 200 ≤ a := m_le (a := 200) (by omega) ha
theorem m_0le {a : Nat} (ha : a ≤ 70000) : ¬ nI a < 0 := fun h => absurd ((m_lt (b := 0) ha (by omega)).mp h) (Nat.not_lt_zero _)
theorem m_vp {a n : Nat} (h : a < n) (hn : n ≤ 70000) : vp_in (nI a) n := vp_in_nI h (by omega)
def fOpp (a b : Int32) : Prop := (0 < a ∧ b < 0) ∨ (a < 0 ∧ 0 < b)
def fSum (E : Nat → Int32) : Nat → Int32 | 0 => 0 | k + 1 => fSum E k + aAbs (E k)
def fMax (E : Nat → Int32) : Nat → Int32 | 0 => 0 | k + 1 => iMax (fMax E k) (aAbs (E (k + 1)))
def fOver (E : Nat → Int32) : Nat → Int32 | 0 => 0 | k + 1 => if vX6_areOpposite (E 0) (E (k + 1)) = 0 then fOver E k else iMax (fOver E k) (aAbs (E (k + 1)))
def fCross (E : Nat → Int32) : Nat → Int32 | 0 => 0 | k + 1 => if vX6_areOpposite (E k) (E (k + 1)) = 0 then fCross E k else fCross E k + 1
def fSat (X : Nat → Int32) : Nat → Int32 | 0 => 0 | k + 1 => fSat X k + X k
def fPv (A : Nat → Int32) : Nat → Int32 | 0 => 0 | k + 1 => A k
def fAct (A : Nat → Int32) : Nat → Int32 | 0 => 0 | k + 1 => fAct A k + aAbs (A k - fPv A k)
/-- the least place from which on all (up to N) lie within b; N + 1 if there is none -/
def fT (E : Nat → Int32) (b : Int32) : Nat → Nat | 0 => 0 | k + 1 => if b < aAbs (E k) then k + 1 else fT E b k
def fSet (E : Nat → Int32) (b : Int32) (N : Nat) : Int32 := if fT E b (N + 1) = N + 1 then -1 else nI (fT E b (N + 1))
def fDif (E F : Nat → Int32) : Nat → Int32 | 0 => 0 | k + 1 => iMax (fDif E F k) (aAbs (E k - F k))
def fFst (E F : Nat → Int32) : Nat → Nat → Int32 | _, 0 => -1 | i, j + 1 => if E i = F i then fFst E F (i + 1) j else nI i
def fLes (E F : Nat → Int32) : Nat → Int32 | 0 => 0 | k + 1 => if aAbs (F k) ≤ aAbs (E k) then fLes E F k else fLes E F k + 1
/-- a trace at a: its six rows at e 0 .. e 5, its number of steps N -/
def tAt (w : mH) (a : Nat) (e : Nat → Nat) (N : Nat) : Prop := hk w a = (6, 0) ∧ (∀ k, k < 6 → hfr w a k = some (e k)) ∧ hk w (e 0) = (16, 201) ∧ (∀ k, 0 < k → k < 6 → hk w (e k) = (16, 200)) ∧ hfi w a 6 = nI N ∧ N ≤ 200
abbrev mX6_sumOfErrors : mM := (yX6_sumOfErrors, cX6_sumOfErrors, 3, (some .int), [])
set_option maxHeartbeats 4000000 in
set_option maxRecDepth 100000 in
theorem gX6_sumOfErrors_0 {G : mG} {w : mH} {Φ : mF} {a0 : Nat}  (k1 : mW G mX6_sumOfErrors 1 0 0 4 [(0, .ref a0), (1, .int 0), (2, .int 0)] [] w Φ) : mW G mX6_sumOfErrors 1 0 0 0 [(0, .ref a0)] [] w Φ := by
  refine mW_iconst (v := 0) dX6_sumOfErrors_0 (by decide) ?_
  refine mW_istore_n (lv2 := [(1, .int 0), (0, .ref a0)]) dX6_sumOfErrors_1 rfl (by decide) rfl ?_
  refine mW_iconst (v := 0) dX6_sumOfErrors_2 (by decide) ?_
  refine mW_istore_n (lv2 := [(2, .int 0), (1, .int 0), (0, .ref a0)]) dX6_sumOfErrors_3 rfl (by decide) rfl ?_
  refine mW_loc [2, 1, 0] (lv2 := [(0, .ref a0), (1, .int 0), (2, .int 0)]) rfl ?_
  exact k1
theorem u630 : (Cond.methodLink "LineFollowerBench$Trace" 68 ⟨"java/lang/Math", "abs", "(I)I"⟩ : Cond) ∈ mTs := mTs_in 630 (by decide +kernel) (by decide +kernel)
theorem u631 : (Cond.static ⟨"java/lang/Math", "abs", "(I)I"⟩ : Cond) ∈ mTs := mTs_in 631 (by decide +kernel) (by decide +kernel)
theorem u632 : (Cond.code ⟨"java/lang/Math", "abs", "(I)I"⟩ prog_28_method_59_code 1 (some .int) : Cond) ∈ mTs := mTs_in 632 (by decide +kernel) (by decide +kernel)
set_option maxHeartbeats 4000000 in
set_option maxRecDepth 100000 in
theorem gX6_sumOfErrors_4 {G : mG} {w : mH} {Φ : mF} {a0 : Nat} {x1 x2 : Int32} {a0_0 n_a0_0 : Nat} (h1 : hk w a0 = (6, 0)) (h2 : hfr w a0 0 = some a0_0) (h3 : hk w a0_0 = (16, n_a0_0)) (s1 : (¬ ((hfi w a0 6) < x2)) → (¬ (200 < x2)) → vp_in x2 n_a0_0) (k1 : ((hfi w a0 6) < x2) → Φ (.inl (some (.int x1))) w) (k2 : (¬ ((hfi w a0 6) < x2)) → (200 < x2) → Φ (.inl (some (.int x1))) w) (k3 : (¬ ((hfi w a0 6) < x2)) → (¬ (200 < x2)) → mW G mX6_sumOfErrors 1 0 0 4 [(0, .ref a0), (1, .int (x1 + (aAbs (hai w a0_0 x2.toNatClampNeg)))), (2, .int (x2 + 1))] [] w Φ) : mW G mX6_sumOfErrors 1 0 0 4 [(0, .ref a0), (1, .int x1), (2, .int x2)] [] w Φ := by
  refine mW_iload_n (j := 2) dX6_sumOfErrors_4 rfl rfl ?_
  refine mW_aload_n (j := 0) dX6_sumOfErrors_5 rfl rfl ?_
  refine mW_get dX6_sumOfErrors_6 f_X6_30 h1 rfl ?_
  refine mW_icmp_gt (tgt := 37) dX6_sumOfErrors_9 (by decide) (fun c1 => ?_) (fun c1 => ?_)
  · refine mW_iload_n (j := 1) dX6_sumOfErrors_37 rfl rfl ?_
    exact mW_iret dX6_sumOfErrors_38 rfl (k1 c1)
  · refine mW_iload_n (j := 2) dX6_sumOfErrors_12 rfl rfl ?_
    refine mW_sipush (v := 200) dX6_sumOfErrors_13 (by decide) ?_
    refine mW_icmp_gt (tgt := 37) dX6_sumOfErrors_16 (by decide) (fun c2 => ?_) (fun c2 => ?_)
    · refine mW_iload_n (j := 1) dX6_sumOfErrors_37 rfl rfl ?_
      exact mW_iret dX6_sumOfErrors_38 rfl (k2 c1 c2)
    · refine mW_iload_n (j := 1) dX6_sumOfErrors_19 rfl rfl ?_
      refine mW_aload_n (j := 0) dX6_sumOfErrors_20 rfl rfl ?_
      refine mW_getR dX6_sumOfErrors_21 f_X6_9 h1 rfl h2 ?_
      refine mW_iload_n (j := 2) dX6_sumOfErrors_24 rfl rfl ?_
      refine mW_ialdJ dX6_sumOfErrors_25 h3 (s1 c1 c2) rfl ?_
      refine mW_mabsA dX6_sumOfErrors_26 u630 u631 u91 u632 (Nat.le_of_ble_eq_true rfl) (by decide) ?_
      refine mW_iadd dX6_sumOfErrors_29 ?_
      refine mW_istore_n (lv2 := [(1, .int (x1 + (aAbs (hai w a0_0 x2.toNatClampNeg)))), (0, .ref a0), (2, .int x2)]) dX6_sumOfErrors_30 rfl (by decide) rfl ?_
      refine mW_iinc (j := 2) (v := x2 + 1) (lv2 := [(2, .int (x2 + 1)), (1, .int (x1 + (aAbs (hai w a0_0 x2.toNatClampNeg)))), (0, .ref a0)]) dX6_sumOfErrors_31 rfl rfl (by decide) rfl ?_
      refine mW_goto (tgt := 4) dX6_sumOfErrors_34 (by decide) ?_
      refine mW_loc [2, 1, 0] (lv2 := [(0, .ref a0), (1, .int (x1 + (aAbs (hai w a0_0 x2.toNatClampNeg)))), (2, .int (x2 + 1))]) rfl ?_
      exact k3 c1 c2
abbrev mX6_greatestError : mM := (yX6_greatestError, cX6_greatestError, 3, (some .int), [])
set_option maxHeartbeats 4000000 in
set_option maxRecDepth 100000 in
theorem gX6_greatestError_0 {G : mG} {w : mH} {Φ : mF} {a0 : Nat}  (k1 : mW G mX6_greatestError 1 0 0 4 [(0, .ref a0), (1, .int 0), (2, .int 1)] [] w Φ) : mW G mX6_greatestError 1 0 0 0 [(0, .ref a0)] [] w Φ := by
  refine mW_iconst (v := 0) dX6_greatestError_0 (by decide) ?_
  refine mW_istore_n (lv2 := [(1, .int 0), (0, .ref a0)]) dX6_greatestError_1 rfl (by decide) rfl ?_
  refine mW_iconst (v := 1) dX6_greatestError_2 (by decide) ?_
  refine mW_istore_n (lv2 := [(2, .int 1), (1, .int 0), (0, .ref a0)]) dX6_greatestError_3 rfl (by decide) rfl ?_
  refine mW_loc [2, 1, 0] (lv2 := [(0, .ref a0), (1, .int 0), (2, .int 1)]) rfl ?_
  exact k1
theorem u644 : (Cond.methodLink "LineFollowerBench$Trace" 73 ⟨"java/lang/Math", "max", "(II)I"⟩ : Cond) ∈ mTs := mTs_in 644 (by decide +kernel) (by decide +kernel)
set_option maxHeartbeats 4000000 in
set_option maxRecDepth 100000 in
theorem gX6_greatestError_4 {G : mG} {w : mH} {Φ : mF} {a0 : Nat} {x1 x2 : Int32} {a0_0 n_a0_0 : Nat} (h1 : hk w a0 = (6, 0)) (h2 : hfr w a0 0 = some a0_0) (h3 : hk w a0_0 = (16, n_a0_0)) (s1 : (¬ ((hfi w a0 6) < x2)) → (¬ (200 < x2)) → vp_in x2 n_a0_0) (k1 : ((hfi w a0 6) < x2) → Φ (.inl (some (.int x1))) w) (k2 : (¬ ((hfi w a0 6) < x2)) → (200 < x2) → Φ (.inl (some (.int x1))) w) (k3 : (¬ ((hfi w a0 6) < x2)) → (¬ (200 < x2)) → mW G mX6_greatestError 1 0 0 4 [(0, .ref a0), (1, .int (iMax x1 (aAbs (hai w a0_0 x2.toNatClampNeg)))), (2, .int (x2 + 1))] [] w Φ) : mW G mX6_greatestError 1 0 0 4 [(0, .ref a0), (1, .int x1), (2, .int x2)] [] w Φ := by
  refine mW_iload_n (j := 2) dX6_greatestError_4 rfl rfl ?_
  refine mW_aload_n (j := 0) dX6_greatestError_5 rfl rfl ?_
  refine mW_get dX6_greatestError_6 f_X6_30 h1 rfl ?_
  refine mW_icmp_gt (tgt := 39) dX6_greatestError_9 (by decide) (fun c1 => ?_) (fun c1 => ?_)
  · refine mW_iload_n (j := 1) dX6_greatestError_39 rfl rfl ?_
    exact mW_iret dX6_greatestError_40 rfl (k1 c1)
  · refine mW_iload_n (j := 2) dX6_greatestError_12 rfl rfl ?_
    refine mW_sipush (v := 200) dX6_greatestError_13 (by decide) ?_
    refine mW_icmp_gt (tgt := 39) dX6_greatestError_16 (by decide) (fun c2 => ?_) (fun c2 => ?_)
    · refine mW_iload_n (j := 1) dX6_greatestError_39 rfl rfl ?_
      exact mW_iret dX6_greatestError_40 rfl (k2 c1 c2)
    · refine mW_iload_n (j := 1) dX6_greatestError_19 rfl rfl ?_
      refine mW_aload_n (j := 0) dX6_greatestError_20 rfl rfl ?_
      refine mW_getR dX6_greatestError_21 f_X6_9 h1 rfl h2 ?_
      refine mW_iload_n (j := 2) dX6_greatestError_24 rfl rfl ?_
      refine mW_ialdJ dX6_greatestError_25 h3 (s1 c1 c2) rfl ?_
      refine mW_mabsA dX6_greatestError_26 u630 u631 u91 u632 (Nat.le_of_ble_eq_true rfl) (by decide) ?_
      refine mW_mmaxA dX6_greatestError_29 u644 u543 u91 u544 (Nat.le_of_ble_eq_true rfl) (by decide) ?_
      refine mW_istore_n (lv2 := [(1, .int (iMax x1 (aAbs (hai w a0_0 x2.toNatClampNeg)))), (0, .ref a0), (2, .int x2)]) dX6_greatestError_32 rfl (by decide) rfl ?_
      refine mW_iinc (j := 2) (v := x2 + 1) (lv2 := [(2, .int (x2 + 1)), (1, .int (iMax x1 (aAbs (hai w a0_0 x2.toNatClampNeg)))), (0, .ref a0)]) dX6_greatestError_33 rfl rfl (by decide) rfl ?_
      refine mW_goto (tgt := 4) dX6_greatestError_36 (by decide) ?_
      refine mW_loc [2, 1, 0] (lv2 := [(0, .ref a0), (1, .int (iMax x1 (aAbs (hai w a0_0 x2.toNatClampNeg)))), (2, .int (x2 + 1))]) rfl ?_
      exact k3 c1 c2
abbrev mX6_overshoot : mM := (yX6_overshoot, cX6_overshoot, 3, (some .int), [])
set_option maxHeartbeats 4000000 in
set_option maxRecDepth 100000 in
theorem gX6_overshoot_0 {G : mG} {w : mH} {Φ : mF} {a0 : Nat}  (k1 : mW G mX6_overshoot 2 0 0 4 [(0, .ref a0), (1, .int 0), (2, .int 1)] [] w Φ) : mW G mX6_overshoot 2 0 0 0 [(0, .ref a0)] [] w Φ := by
  refine mW_iconst (v := 0) dX6_overshoot_0 (by decide) ?_
  refine mW_istore_n (lv2 := [(1, .int 0), (0, .ref a0)]) dX6_overshoot_1 rfl (by decide) rfl ?_
  refine mW_iconst (v := 1) dX6_overshoot_2 (by decide) ?_
  refine mW_istore_n (lv2 := [(2, .int 1), (1, .int 0), (0, .ref a0)]) dX6_overshoot_3 rfl (by decide) rfl ?_
  refine mW_loc [2, 1, 0] (lv2 := [(0, .ref a0), (1, .int 0), (2, .int 1)]) rfl ?_
  exact k1
theorem u643 : (Cond.code ⟨"LineFollowerBench$Trace", "areOpposite", "(II)Z"⟩ prog_8_method_13_code 2 (some .boolean) : Cond) ∈ mTs := mTs_in 643 (by decide +kernel) (by decide +kernel)
theorem co_X6_areOpposite : mCode mX6_areOpposite := ⟨u643, u82, by decide⟩
theorem u641 : (Cond.methodLink "LineFollowerBench$Trace" 77 ⟨"LineFollowerBench$Trace", "areOpposite", "(II)Z"⟩ : Cond) ∈ mTs := mTs_in 641 (by decide +kernel) (by decide +kernel)
theorem u642 : (Cond.static ⟨"LineFollowerBench$Trace", "areOpposite", "(II)Z"⟩ : Cond) ∈ mTs := mTs_in 642 (by decide +kernel) (by decide +kernel)
theorem l_X6_77 : mLinkS "LineFollowerBench$Trace" 77 2 mX6_areOpposite := ⟨⟨by decide, by decide, by decide +kernel⟩, co_X6_areOpposite, u641, u642⟩
set_option maxHeartbeats 4000000 in
set_option maxRecDepth 100000 in
theorem gX6_overshoot_4 {G : mG} {w : mH} {Φ : mF} {a0 : Nat} {x1 x2 : Int32} {a0_0 n_a0_0 : Nat} (h1 : hk w a0 = (6, 0)) (h2 : hfr w a0 0 = some a0_0) (h3 : hk w a0_0 = (16, n_a0_0)) (s1 : (¬ ((hfi w a0 6) < x2)) → (¬ (200 < x2)) → vp_in 0 n_a0_0) (s2 : (¬ ((hfi w a0 6) < x2)) → (¬ (200 < x2)) → vp_in x2 n_a0_0) (k1 : ((hfi w a0 6) < x2) → Φ (.inl (some (.int x1))) w) (k2 : (¬ ((hfi w a0 6) < x2)) → (200 < x2) → Φ (.inl (some (.int x1))) w) (k3 : (¬ ((hfi w a0 6) < x2)) → (¬ (200 < x2)) → ((vX6_areOpposite (hai w a0_0 0) (hai w a0_0 x2.toNatClampNeg)) = 0) → mW G mX6_overshoot 2 0 0 4 [(0, .ref a0), (1, .int x1), (2, .int (x2 + 1))] [] w Φ) (k4 : (¬ ((hfi w a0 6) < x2)) → (¬ (200 < x2)) → (¬ ((vX6_areOpposite (hai w a0_0 0) (hai w a0_0 x2.toNatClampNeg)) = 0)) → mW G mX6_overshoot 2 0 0 4 [(0, .ref a0), (1, .int (iMax x1 (aAbs (hai w a0_0 x2.toNatClampNeg)))), (2, .int (x2 + 1))] [] w Φ) : mW G mX6_overshoot 2 0 0 4 [(0, .ref a0), (1, .int x1), (2, .int x2)] [] w Φ := by
  refine mW_iload_n (j := 2) dX6_overshoot_4 rfl rfl ?_
  refine mW_aload_n (j := 0) dX6_overshoot_5 rfl rfl ?_
  refine mW_get dX6_overshoot_6 f_X6_30 h1 rfl ?_
  refine mW_icmp_gt (tgt := 57) dX6_overshoot_9 (by decide) (fun c1 => ?_) (fun c1 => ?_)
  · refine mW_iload_n (j := 1) dX6_overshoot_57 rfl rfl ?_
    exact mW_iret dX6_overshoot_58 rfl (k1 c1)
  · refine mW_iload_n (j := 2) dX6_overshoot_12 rfl rfl ?_
    refine mW_sipush (v := 200) dX6_overshoot_13 (by decide) ?_
    refine mW_icmp_gt (tgt := 57) dX6_overshoot_16 (by decide) (fun c2 => ?_) (fun c2 => ?_)
    · refine mW_iload_n (j := 1) dX6_overshoot_57 rfl rfl ?_
      exact mW_iret dX6_overshoot_58 rfl (k2 c1 c2)
    · refine mW_aload_n (j := 0) dX6_overshoot_19 rfl rfl ?_
      refine mW_getR dX6_overshoot_20 f_X6_9 h1 rfl h2 ?_
      refine mW_iconst (v := 0) dX6_overshoot_23 (by decide) ?_
      refine mW_ialdJ dX6_overshoot_24 h3 (s1 c1 c2) (j := 0) (by decide) ?_
      refine mW_aload_n (j := 0) dX6_overshoot_25 rfl rfl ?_
      refine mW_getR dX6_overshoot_26 f_X6_9 h1 rfl h2 ?_
      refine mW_iload_n (j := 2) dX6_overshoot_29 rfl rfl ?_
      refine mW_ialdJ dX6_overshoot_30 h3 (s2 c1 c2) rfl ?_
      refine mW_callSe (As := [.int (hai w a0_0 0), .int (hai w a0_0 x2.toNatClampNeg)]) (rest := []) (kc2 := 0) (ks2 := 0) dX6_overshoot_31 l_X6_77 rfl (qX6_areOpposite (w := w) (x0 := hai w a0_0 0) (x1 := hai w a0_0 x2.toNatClampNeg)) (Nat.le_of_ble_eq_true rfl) (by decide) rfl rfl ?_
      refine mW_if_eq (tgt := 51) dX6_overshoot_34 (by decide) (fun c3 => ?_) (fun c3 => ?_)
      · refine mW_iinc (j := 2) (v := x2 + 1) (lv2 := [(2, .int (x2 + 1)), (0, .ref a0), (1, .int x1)]) dX6_overshoot_51 rfl rfl (by decide) rfl ?_
        refine mW_goto (tgt := 4) dX6_overshoot_54 (by decide) ?_
        refine mW_loc [1, 2, 0] (lv2 := [(0, .ref a0), (1, .int x1), (2, .int (x2 + 1))]) rfl ?_
        exact k3 c1 c2 c3
      · refine mW_iload_n (j := 1) dX6_overshoot_37 rfl rfl ?_
        refine mW_aload_n (j := 0) dX6_overshoot_38 rfl rfl ?_
        refine mW_getR dX6_overshoot_39 f_X6_9 h1 rfl h2 ?_
        refine mW_iload_n (j := 2) dX6_overshoot_42 rfl rfl ?_
        refine mW_ialdJ dX6_overshoot_43 h3 (s2 c1 c2) rfl ?_
        refine mW_mabsA dX6_overshoot_44 u630 u631 u91 u632 (Nat.le_of_ble_eq_true rfl) (by decide) ?_
        refine mW_mmaxA dX6_overshoot_47 u644 u543 u91 u544 (Nat.le_of_ble_eq_true rfl) (by decide) ?_
        refine mW_istore_n (lv2 := [(1, .int (iMax x1 (aAbs (hai w a0_0 x2.toNatClampNeg)))), (0, .ref a0), (2, .int x2)]) dX6_overshoot_50 rfl (by decide) rfl ?_
        refine mW_iinc (j := 2) (v := x2 + 1) (lv2 := [(2, .int (x2 + 1)), (1, .int (iMax x1 (aAbs (hai w a0_0 x2.toNatClampNeg)))), (0, .ref a0)]) dX6_overshoot_51 rfl rfl (by decide) rfl ?_
        refine mW_goto (tgt := 4) dX6_overshoot_54 (by decide) ?_
        refine mW_loc [2, 1, 0] (lv2 := [(0, .ref a0), (1, .int (iMax x1 (aAbs (hai w a0_0 x2.toNatClampNeg)))), (2, .int (x2 + 1))]) rfl ?_
        exact k4 c1 c2 c3
abbrev mX6_settlingStep : mM := (yX6_settlingStep, cX6_settlingStep, 4, (some .int), [])
theorem u629 : (Cond.methodLink "LineFollowerBench$Trace" 81 ⟨"java/lang/Math", "min", "(II)I"⟩ : Cond) ∈ mTs := mTs_in 629 (by decide +kernel) (by decide +kernel)
set_option maxHeartbeats 4000000 in
set_option maxRecDepth 100000 in
theorem gX6_settlingStep_0 {G : mG} {w : mH} {Φ : mF} {a0 : Nat} {x1 : Int32} (h1 : hk w a0 = (6, 0)) (k1 : mW G mX6_settlingStep 1 0 0 13 [(0, .ref a0), (1, .int x1), (2, .int (-1)), (3, .int (iMin (hfi w a0 6) 200))] [] w Φ) : mW G mX6_settlingStep 1 0 0 0 [(0, .ref a0), (1, .int x1)] [] w Φ := by
  refine mW_iconst (v := (-1)) dX6_settlingStep_0 (by decide) ?_
  refine mW_istore_n (lv2 := [(2, .int (-1)), (0, .ref a0), (1, .int x1)]) dX6_settlingStep_1 rfl (by decide) rfl ?_
  refine mW_aload_n (j := 1) dX6_settlingStep_2 rfl rfl ?_
  refine mW_get dX6_settlingStep_3 f_X6_30 h1 rfl ?_
  refine mW_sipush (v := 200) dX6_settlingStep_6 (by decide) ?_
  refine mW_mminA dX6_settlingStep_9 u629 u500 u91 u501 (Nat.le_of_ble_eq_true rfl) (by decide) ?_
  refine mW_istore_n (lv2 := [(3, .int (iMin (hfi w a0 6) 200)), (2, .int (-1)), (0, .ref a0), (1, .int x1)]) dX6_settlingStep_12 rfl (by decide) rfl ?_
  refine mW_loc [2, 3, 1, 0] (lv2 := [(0, .ref a0), (1, .int x1), (2, .int (-1)), (3, .int (iMin (hfi w a0 6) 200))]) rfl ?_
  exact k1
set_option maxHeartbeats 4000000 in
set_option maxRecDepth 100000 in
theorem gX6_settlingStep_13 {G : mG} {w : mH} {Φ : mF} {a0 : Nat} {x1 x2 x3 : Int32} {a0_0 n_a0_0 : Nat} (h1 : hk w a0 = (6, 0)) (h2 : hfr w a0 0 = some a0_0) (h3 : hk w a0_0 = (16, n_a0_0)) (s1 : (¬ (x3 < 0)) → vp_in x3 n_a0_0) (k1 : (x3 < 0) → Φ (.inl (some (.int x2))) w) (k2 : (¬ (x3 < 0)) → (x1 < (aAbs (hai w a0_0 x3.toNatClampNeg))) → Φ (.inl (some (.int x2))) w) (k3 : (¬ (x3 < 0)) → (¬ (x1 < (aAbs (hai w a0_0 x3.toNatClampNeg)))) → mW G mX6_settlingStep 1 0 0 13 [(0, .ref a0), (1, .int x1), (2, .int x3), (3, .int (x3 + (-1)))] [] w Φ) : mW G mX6_settlingStep 1 0 0 13 [(0, .ref a0), (1, .int x1), (2, .int x2), (3, .int x3)] [] w Φ := by
  refine mW_iload_n (j := 3) dX6_settlingStep_13 rfl rfl ?_
  refine mW_if_lt (tgt := 38) dX6_settlingStep_14 (by decide) (fun c1 => ?_) (fun c1 => ?_)
  · refine mW_iload_n (j := 2) dX6_settlingStep_38 rfl rfl ?_
    exact mW_iret dX6_settlingStep_39 rfl (k1 c1)
  · refine mW_aload_n (j := 0) dX6_settlingStep_17 rfl rfl ?_
    refine mW_getR dX6_settlingStep_18 f_X6_9 h1 rfl h2 ?_
    refine mW_iload_n (j := 3) dX6_settlingStep_21 rfl rfl ?_
    refine mW_ialdJ dX6_settlingStep_22 h3 (s1 c1) rfl ?_
    refine mW_mabsA dX6_settlingStep_23 u630 u631 u91 u632 (Nat.le_of_ble_eq_true rfl) (by decide) ?_
    refine mW_iload_n (j := 1) dX6_settlingStep_26 rfl rfl ?_
    refine mW_icmp_gt (tgt := 38) dX6_settlingStep_27 (by decide) (fun c2 => ?_) (fun c2 => ?_)
    · refine mW_iload_n (j := 2) dX6_settlingStep_38 rfl rfl ?_
      exact mW_iret dX6_settlingStep_39 rfl (k2 c1 c2)
    · refine mW_iload_n (j := 3) dX6_settlingStep_30 rfl rfl ?_
      refine mW_istore_n (lv2 := [(2, .int x3), (0, .ref a0), (1, .int x1), (3, .int x3)]) dX6_settlingStep_31 rfl (by decide) rfl ?_
      refine mW_iinc (j := 3) (v := x3 + (-1)) (lv2 := [(3, .int (x3 + (-1))), (2, .int x3), (0, .ref a0), (1, .int x1)]) dX6_settlingStep_32 rfl rfl (by decide) rfl ?_
      refine mW_goto (tgt := 13) dX6_settlingStep_35 (by decide) ?_
      refine mW_loc [2, 3, 1, 0] (lv2 := [(0, .ref a0), (1, .int x1), (2, .int x3), (3, .int (x3 + (-1)))]) rfl ?_
      exact k3 c1 c2
abbrev mX6_crossings : mM := (yX6_crossings, cX6_crossings, 3, (some .int), [])
set_option maxHeartbeats 4000000 in
set_option maxRecDepth 100000 in
theorem gX6_crossings_0 {G : mG} {w : mH} {Φ : mF} {a0 : Nat}  (k1 : mW G mX6_crossings 2 0 0 4 [(0, .ref a0), (1, .int 0), (2, .int 0)] [] w Φ) : mW G mX6_crossings 2 0 0 0 [(0, .ref a0)] [] w Φ := by
  refine mW_iconst (v := 0) dX6_crossings_0 (by decide) ?_
  refine mW_istore_n (lv2 := [(1, .int 0), (0, .ref a0)]) dX6_crossings_1 rfl (by decide) rfl ?_
  refine mW_iconst (v := 0) dX6_crossings_2 (by decide) ?_
  refine mW_istore_n (lv2 := [(2, .int 0), (1, .int 0), (0, .ref a0)]) dX6_crossings_3 rfl (by decide) rfl ?_
  refine mW_loc [2, 1, 0] (lv2 := [(0, .ref a0), (1, .int 0), (2, .int 0)]) rfl ?_
  exact k1
set_option maxHeartbeats 4000000 in
set_option maxRecDepth 100000 in
theorem gX6_crossings_4 {G : mG} {w : mH} {Φ : mF} {a0 : Nat} {x1 x2 : Int32} {a0_0 n_a0_0 : Nat} (h1 : hk w a0 = (6, 0)) (h2 : hfr w a0 0 = some a0_0) (h3 : hk w a0_0 = (16, n_a0_0)) (s1 : (¬ ((hfi w a0 6) ≤ x2)) → (¬ (200 ≤ x2)) → vp_in x2 n_a0_0) (s2 : (¬ ((hfi w a0 6) ≤ x2)) → (¬ (200 ≤ x2)) → vp_in (x2 + 1) n_a0_0) (k1 : ((hfi w a0 6) ≤ x2) → Φ (.inl (some (.int x1))) w) (k2 : (¬ ((hfi w a0 6) ≤ x2)) → (200 ≤ x2) → Φ (.inl (some (.int x1))) w) (k3 : (¬ ((hfi w a0 6) ≤ x2)) → (¬ (200 ≤ x2)) → ((vX6_areOpposite (hai w a0_0 x2.toNatClampNeg) (hai w a0_0 ((x2 + 1).toNatClampNeg))) = 0) → mW G mX6_crossings 2 0 0 4 [(0, .ref a0), (1, .int x1), (2, .int (x2 + 1))] [] w Φ) (k4 : (¬ ((hfi w a0 6) ≤ x2)) → (¬ (200 ≤ x2)) → (¬ ((vX6_areOpposite (hai w a0_0 x2.toNatClampNeg) (hai w a0_0 ((x2 + 1).toNatClampNeg))) = 0)) → mW G mX6_crossings 2 0 0 4 [(0, .ref a0), (1, .int (x1 + 1)), (2, .int (x2 + 1))] [] w Φ) : mW G mX6_crossings 2 0 0 4 [(0, .ref a0), (1, .int x1), (2, .int x2)] [] w Φ := by
  refine mW_iload_n (j := 2) dX6_crossings_4 rfl rfl ?_
  refine mW_aload_n (j := 0) dX6_crossings_5 rfl rfl ?_
  refine mW_get dX6_crossings_6 f_X6_30 h1 rfl ?_
  refine mW_icmp_ge (tgt := 48) dX6_crossings_9 (by decide) (fun c1 => ?_) (fun c1 => ?_)
  · refine mW_iload_n (j := 1) dX6_crossings_48 rfl rfl ?_
    exact mW_iret dX6_crossings_49 rfl (k1 c1)
  · refine mW_iload_n (j := 2) dX6_crossings_12 rfl rfl ?_
    refine mW_sipush (v := 200) dX6_crossings_13 (by decide) ?_
    refine mW_icmp_ge (tgt := 48) dX6_crossings_16 (by decide) (fun c2 => ?_) (fun c2 => ?_)
    · refine mW_iload_n (j := 1) dX6_crossings_48 rfl rfl ?_
      exact mW_iret dX6_crossings_49 rfl (k2 c1 c2)
    · refine mW_aload_n (j := 0) dX6_crossings_19 rfl rfl ?_
      refine mW_getR dX6_crossings_20 f_X6_9 h1 rfl h2 ?_
      refine mW_iload_n (j := 2) dX6_crossings_23 rfl rfl ?_
      refine mW_ialdJ dX6_crossings_24 h3 (s1 c1 c2) rfl ?_
      refine mW_aload_n (j := 0) dX6_crossings_25 rfl rfl ?_
      refine mW_getR dX6_crossings_26 f_X6_9 h1 rfl h2 ?_
      refine mW_iload_n (j := 2) dX6_crossings_29 rfl rfl ?_
      refine mW_iconst (v := 1) dX6_crossings_30 (by decide) ?_
      refine mW_iadd dX6_crossings_31 ?_
      refine mW_ialdJ dX6_crossings_32 h3 (s2 c1 c2) rfl ?_
      refine mW_callSe (As := [.int (hai w a0_0 x2.toNatClampNeg), .int (hai w a0_0 ((x2 + 1).toNatClampNeg))]) (rest := []) (kc2 := 0) (ks2 := 0) dX6_crossings_33 l_X6_77 rfl (qX6_areOpposite (w := w) (x0 := hai w a0_0 x2.toNatClampNeg) (x1 := hai w a0_0 ((x2 + 1).toNatClampNeg))) (Nat.le_of_ble_eq_true rfl) (by decide) rfl rfl ?_
      refine mW_if_eq (tgt := 42) dX6_crossings_36 (by decide) (fun c3 => ?_) (fun c3 => ?_)
      · refine mW_iinc (j := 2) (v := x2 + 1) (lv2 := [(2, .int (x2 + 1)), (0, .ref a0), (1, .int x1)]) dX6_crossings_42 rfl rfl (by decide) rfl ?_
        refine mW_goto (tgt := 4) dX6_crossings_45 (by decide) ?_
        refine mW_loc [1, 2, 0] (lv2 := [(0, .ref a0), (1, .int x1), (2, .int (x2 + 1))]) rfl ?_
        exact k3 c1 c2 c3
      · refine mW_iinc (j := 1) (v := x1 + 1) (lv2 := [(1, .int (x1 + 1)), (0, .ref a0), (2, .int x2)]) dX6_crossings_39 rfl rfl (by decide) rfl ?_
        refine mW_iinc (j := 2) (v := x2 + 1) (lv2 := [(2, .int (x2 + 1)), (1, .int (x1 + 1)), (0, .ref a0)]) dX6_crossings_42 rfl rfl (by decide) rfl ?_
        refine mW_goto (tgt := 4) dX6_crossings_45 (by decide) ?_
        refine mW_loc [2, 1, 0] (lv2 := [(0, .ref a0), (1, .int (x1 + 1)), (2, .int (x2 + 1))]) rfl ?_
        exact k4 c1 c2 c3
abbrev mX6_saturatedSteps : mM := (yX6_saturatedSteps, cX6_saturatedSteps, 3, (some .int), [])
set_option maxHeartbeats 4000000 in
set_option maxRecDepth 100000 in
theorem gX6_saturatedSteps_0 {G : mG} {w : mH} {Φ : mF} {a0 : Nat}  (k1 : mW G mX6_saturatedSteps 1 0 0 4 [(0, .ref a0), (1, .int 0), (2, .int 0)] [] w Φ) : mW G mX6_saturatedSteps 1 0 0 0 [(0, .ref a0)] [] w Φ := by
  refine mW_iconst (v := 0) dX6_saturatedSteps_0 (by decide) ?_
  refine mW_istore_n (lv2 := [(1, .int 0), (0, .ref a0)]) dX6_saturatedSteps_1 rfl (by decide) rfl ?_
  refine mW_iconst (v := 0) dX6_saturatedSteps_2 (by decide) ?_
  refine mW_istore_n (lv2 := [(2, .int 0), (1, .int 0), (0, .ref a0)]) dX6_saturatedSteps_3 rfl (by decide) rfl ?_
  refine mW_loc [2, 1, 0] (lv2 := [(0, .ref a0), (1, .int 0), (2, .int 0)]) rfl ?_
  exact k1
set_option maxHeartbeats 4000000 in
set_option maxRecDepth 100000 in
theorem gX6_saturatedSteps_4 {G : mG} {w : mH} {Φ : mF} {a0 : Nat} {x1 x2 : Int32} {a0_5 n_a0_5 : Nat} (h1 : hk w a0 = (6, 0)) (h2 : hfr w a0 5 = some a0_5) (h3 : hk w a0_5 = (16, n_a0_5)) (s1 : (¬ ((hfi w a0 6) ≤ x2)) → (¬ (200 ≤ x2)) → vp_in x2 n_a0_5) (k1 : ((hfi w a0 6) ≤ x2) → Φ (.inl (some (.int x1))) w) (k2 : (¬ ((hfi w a0 6) ≤ x2)) → (200 ≤ x2) → Φ (.inl (some (.int x1))) w) (k3 : (¬ ((hfi w a0 6) ≤ x2)) → (¬ (200 ≤ x2)) → mW G mX6_saturatedSteps 1 0 0 4 [(0, .ref a0), (1, .int (x1 + (hai w a0_5 x2.toNatClampNeg))), (2, .int (x2 + 1))] [] w Φ) : mW G mX6_saturatedSteps 1 0 0 4 [(0, .ref a0), (1, .int x1), (2, .int x2)] [] w Φ := by
  refine mW_iload_n (j := 2) dX6_saturatedSteps_4 rfl rfl ?_
  refine mW_aload_n (j := 0) dX6_saturatedSteps_5 rfl rfl ?_
  refine mW_get dX6_saturatedSteps_6 f_X6_30 h1 rfl ?_
  refine mW_icmp_ge (tgt := 34) dX6_saturatedSteps_9 (by decide) (fun c1 => ?_) (fun c1 => ?_)
  · refine mW_iload_n (j := 1) dX6_saturatedSteps_34 rfl rfl ?_
    exact mW_iret dX6_saturatedSteps_35 rfl (k1 c1)
  · refine mW_iload_n (j := 2) dX6_saturatedSteps_12 rfl rfl ?_
    refine mW_sipush (v := 200) dX6_saturatedSteps_13 (by decide) ?_
    refine mW_icmp_ge (tgt := 34) dX6_saturatedSteps_16 (by decide) (fun c2 => ?_) (fun c2 => ?_)
    · refine mW_iload_n (j := 1) dX6_saturatedSteps_34 rfl rfl ?_
      exact mW_iret dX6_saturatedSteps_35 rfl (k2 c1 c2)
    · refine mW_iload_n (j := 1) dX6_saturatedSteps_19 rfl rfl ?_
      refine mW_aload_n (j := 0) dX6_saturatedSteps_20 rfl rfl ?_
      refine mW_getR dX6_saturatedSteps_21 f_X6_27 h1 rfl h2 ?_
      refine mW_iload_n (j := 2) dX6_saturatedSteps_24 rfl rfl ?_
      refine mW_ialdJ dX6_saturatedSteps_25 h3 (s1 c1 c2) rfl ?_
      refine mW_iadd dX6_saturatedSteps_26 ?_
      refine mW_istore_n (lv2 := [(1, .int (x1 + (hai w a0_5 x2.toNatClampNeg))), (0, .ref a0), (2, .int x2)]) dX6_saturatedSteps_27 rfl (by decide) rfl ?_
      refine mW_iinc (j := 2) (v := x2 + 1) (lv2 := [(2, .int (x2 + 1)), (1, .int (x1 + (hai w a0_5 x2.toNatClampNeg))), (0, .ref a0)]) dX6_saturatedSteps_28 rfl rfl (by decide) rfl ?_
      refine mW_goto (tgt := 4) dX6_saturatedSteps_31 (by decide) ?_
      refine mW_loc [2, 1, 0] (lv2 := [(0, .ref a0), (1, .int (x1 + (hai w a0_5 x2.toNatClampNeg))), (2, .int (x2 + 1))]) rfl ?_
      exact k3 c1 c2
abbrev mX6_actuatorChanges : mM := (yX6_actuatorChanges, cX6_actuatorChanges, 4, (some .int), [])
set_option maxHeartbeats 4000000 in
set_option maxRecDepth 100000 in
theorem gX6_actuatorChanges_0 {G : mG} {w : mH} {Φ : mF} {a0 : Nat}  (k1 : mW G mX6_actuatorChanges 1 0 0 6 [(0, .ref a0), (1, .int 0), (2, .int 0), (3, .int 0)] [] w Φ) : mW G mX6_actuatorChanges 1 0 0 0 [(0, .ref a0)] [] w Φ := by
  refine mW_iconst (v := 0) dX6_actuatorChanges_0 (by decide) ?_
  refine mW_istore_n (lv2 := [(1, .int 0), (0, .ref a0)]) dX6_actuatorChanges_1 rfl (by decide) rfl ?_
  refine mW_iconst (v := 0) dX6_actuatorChanges_2 (by decide) ?_
  refine mW_istore_n (lv2 := [(2, .int 0), (1, .int 0), (0, .ref a0)]) dX6_actuatorChanges_3 rfl (by decide) rfl ?_
  refine mW_iconst (v := 0) dX6_actuatorChanges_4 (by decide) ?_
  refine mW_istore_n (lv2 := [(3, .int 0), (2, .int 0), (1, .int 0), (0, .ref a0)]) dX6_actuatorChanges_5 rfl (by decide) rfl ?_
  refine mW_loc [3, 2, 1, 0] (lv2 := [(0, .ref a0), (1, .int 0), (2, .int 0), (3, .int 0)]) rfl ?_
  exact k1
set_option maxHeartbeats 4000000 in
set_option maxRecDepth 100000 in
theorem gX6_actuatorChanges_6 {G : mG} {w : mH} {Φ : mF} {a0 : Nat} {x1 x2 x3 : Int32} {a0_3 n_a0_3 : Nat} (h1 : hk w a0 = (6, 0)) (h2 : hfr w a0 3 = some a0_3) (h3 : hk w a0_3 = (16, n_a0_3)) (s1 : (¬ ((hfi w a0 6) ≤ x3)) → (¬ (200 ≤ x3)) → vp_in x3 n_a0_3) (k1 : ((hfi w a0 6) ≤ x3) → Φ (.inl (some (.int x1))) w) (k2 : (¬ ((hfi w a0 6) ≤ x3)) → (200 ≤ x3) → Φ (.inl (some (.int x1))) w) (k3 : (¬ ((hfi w a0 6) ≤ x3)) → (¬ (200 ≤ x3)) → mW G mX6_actuatorChanges 1 0 0 6 [(0, .ref a0), (1, .int (x1 + (aAbs ((hai w a0_3 x3.toNatClampNeg) - x2)))), (2, .int (hai w a0_3 x3.toNatClampNeg)), (3, .int (x3 + 1))] [] w Φ) : mW G mX6_actuatorChanges 1 0 0 6 [(0, .ref a0), (1, .int x1), (2, .int x2), (3, .int x3)] [] w Φ := by
  refine mW_iload_n (j := 3) dX6_actuatorChanges_6 rfl rfl ?_
  refine mW_aload_n (j := 0) dX6_actuatorChanges_7 rfl rfl ?_
  refine mW_get dX6_actuatorChanges_8 f_X6_30 h1 rfl ?_
  refine mW_icmp_ge (tgt := 48) dX6_actuatorChanges_11 (by decide) (fun c1 => ?_) (fun c1 => ?_)
  · refine mW_iload_n (j := 1) dX6_actuatorChanges_48 rfl rfl ?_
    exact mW_iret dX6_actuatorChanges_49 rfl (k1 c1)
  · refine mW_iload_n (j := 3) dX6_actuatorChanges_14 rfl rfl ?_
    refine mW_sipush (v := 200) dX6_actuatorChanges_15 (by decide) ?_
    refine mW_icmp_ge (tgt := 48) dX6_actuatorChanges_18 (by decide) (fun c2 => ?_) (fun c2 => ?_)
    · refine mW_iload_n (j := 1) dX6_actuatorChanges_48 rfl rfl ?_
      exact mW_iret dX6_actuatorChanges_49 rfl (k2 c1 c2)
    · refine mW_iload_n (j := 1) dX6_actuatorChanges_21 rfl rfl ?_
      refine mW_aload_n (j := 0) dX6_actuatorChanges_22 rfl rfl ?_
      refine mW_getR dX6_actuatorChanges_23 f_X6_21 h1 rfl h2 ?_
      refine mW_iload_n (j := 3) dX6_actuatorChanges_26 rfl rfl ?_
      refine mW_ialdJ dX6_actuatorChanges_27 h3 (s1 c1 c2) rfl ?_
      refine mW_iload_n (j := 2) dX6_actuatorChanges_28 rfl rfl ?_
      refine mW_isub dX6_actuatorChanges_29 ?_
      refine mW_mabsA dX6_actuatorChanges_30 u630 u631 u91 u632 (Nat.le_of_ble_eq_true rfl) (by decide) ?_
      refine mW_iadd dX6_actuatorChanges_33 ?_
      refine mW_istore_n (lv2 := [(1, .int (x1 + (aAbs ((hai w a0_3 x3.toNatClampNeg) - x2)))), (0, .ref a0), (2, .int x2), (3, .int x3)]) dX6_actuatorChanges_34 rfl (by decide) rfl ?_
      refine mW_aload_n (j := 1) dX6_actuatorChanges_35 rfl rfl ?_
      refine mW_getR dX6_actuatorChanges_36 f_X6_21 h1 rfl h2 ?_
      refine mW_iload_n (j := 3) dX6_actuatorChanges_39 rfl rfl ?_
      refine mW_ialdJ dX6_actuatorChanges_40 h3 (s1 c1 c2) rfl ?_
      refine mW_istore_n (lv2 := [(2, .int (hai w a0_3 x3.toNatClampNeg)), (1, .int (x1 + (aAbs ((hai w a0_3 x3.toNatClampNeg) - x2)))), (0, .ref a0), (3, .int x3)]) dX6_actuatorChanges_41 rfl (by decide) rfl ?_
      refine mW_iinc (j := 3) (v := x3 + 1) (lv2 := [(3, .int (x3 + 1)), (2, .int (hai w a0_3 x3.toNatClampNeg)), (1, .int (x1 + (aAbs ((hai w a0_3 x3.toNatClampNeg) - x2)))), (0, .ref a0)]) dX6_actuatorChanges_42 rfl rfl (by decide) rfl ?_
      refine mW_goto (tgt := 6) dX6_actuatorChanges_45 (by decide) ?_
      refine mW_loc [3, 2, 1, 0] (lv2 := [(0, .ref a0), (1, .int (x1 + (aAbs ((hai w a0_3 x3.toNatClampNeg) - x2)))), (2, .int (hai w a0_3 x3.toNatClampNeg)), (3, .int (x3 + 1))]) rfl ?_
      exact k3 c1 c2
abbrev mX6_greatestDifference : mM := (yX6_greatestDifference, cX6_greatestDifference, 4, (some .int), [])
set_option maxHeartbeats 4000000 in
set_option maxRecDepth 100000 in
theorem gX6_greatestDifference_0 {G : mG} {w : mH} {Φ : mF} {a0 a1 : Nat}  (k1 : mW G mX6_greatestDifference 1 0 0 4 [(0, .ref a0), (1, .ref a1), (2, .int 0), (3, .int 0)] [] w Φ) : mW G mX6_greatestDifference 1 0 0 0 [(0, .ref a0), (1, .ref a1)] [] w Φ := by
  refine mW_iconst (v := 0) dX6_greatestDifference_0 (by decide) ?_
  refine mW_istore_n (lv2 := [(2, .int 0), (0, .ref a0), (1, .ref a1)]) dX6_greatestDifference_1 rfl (by decide) rfl ?_
  refine mW_iconst (v := 0) dX6_greatestDifference_2 (by decide) ?_
  refine mW_istore_n (lv2 := [(3, .int 0), (2, .int 0), (0, .ref a0), (1, .ref a1)]) dX6_greatestDifference_3 rfl (by decide) rfl ?_
  refine mW_loc [2, 3, 1, 0] (lv2 := [(0, .ref a0), (1, .ref a1), (2, .int 0), (3, .int 0)]) rfl ?_
  exact k1
set_option maxHeartbeats 4000000 in
set_option maxRecDepth 100000 in
theorem gX6_greatestDifference_4 {G : mG} {w : mH} {Φ : mF} {a0 a1 : Nat} {x2 x3 : Int32} {a0_0 n_a0_0 a1_0 n_a1_0 : Nat} (h1 : hk w a0 = (6, 0)) (h2 : hk w a1 = (6, 0)) (h3 : hfr w a0 0 = some a0_0) (h4 : hk w a0_0 = (16, n_a0_0)) (s1 : (¬ ((hfi w a0 6) < x3)) → (¬ ((hfi w a1 6) < x3)) → (¬ (200 < x3)) → vp_in x3 n_a0_0) (h5 : hfr w a1 0 = some a1_0) (h6 : hk w a1_0 = (16, n_a1_0)) (s2 : (¬ ((hfi w a0 6) < x3)) → (¬ ((hfi w a1 6) < x3)) → (¬ (200 < x3)) → vp_in x3 n_a1_0) (k1 : ((hfi w a0 6) < x3) → Φ (.inl (some (.int x2))) w) (k2 : (¬ ((hfi w a0 6) < x3)) → ((hfi w a1 6) < x3) → Φ (.inl (some (.int x2))) w) (k3 : (¬ ((hfi w a0 6) < x3)) → (¬ ((hfi w a1 6) < x3)) → (200 < x3) → Φ (.inl (some (.int x2))) w) (k4 : (¬ ((hfi w a0 6) < x3)) → (¬ ((hfi w a1 6) < x3)) → (¬ (200 < x3)) → mW G mX6_greatestDifference 1 0 0 4 [(0, .ref a0), (1, .ref a1), (2, .int (iMax x2 (aAbs ((hai w a0_0 x3.toNatClampNeg) - (hai w a1_0 x3.toNatClampNeg))))), (3, .int (x3 + 1))] [] w Φ) : mW G mX6_greatestDifference 1 0 0 4 [(0, .ref a0), (1, .ref a1), (2, .int x2), (3, .int x3)] [] w Φ := by
  refine mW_iload_n (j := 3) dX6_greatestDifference_4 rfl rfl ?_
  refine mW_aload_n (j := 0) dX6_greatestDifference_5 rfl rfl ?_
  refine mW_get dX6_greatestDifference_6 f_X6_30 h1 rfl ?_
  refine mW_icmp_gt (tgt := 54) dX6_greatestDifference_9 (by decide) (fun c1 => ?_) (fun c1 => ?_)
  · refine mW_iload_n (j := 2) dX6_greatestDifference_54 rfl rfl ?_
    exact mW_iret dX6_greatestDifference_55 rfl (k1 c1)
  · refine mW_iload_n (j := 3) dX6_greatestDifference_12 rfl rfl ?_
    refine mW_aload_n (j := 1) dX6_greatestDifference_13 rfl rfl ?_
    refine mW_get dX6_greatestDifference_14 f_X6_30 h2 rfl ?_
    refine mW_icmp_gt (tgt := 54) dX6_greatestDifference_17 (by decide) (fun c2 => ?_) (fun c2 => ?_)
    · refine mW_iload_n (j := 2) dX6_greatestDifference_54 rfl rfl ?_
      exact mW_iret dX6_greatestDifference_55 rfl (k2 c1 c2)
    · refine mW_iload_n (j := 3) dX6_greatestDifference_20 rfl rfl ?_
      refine mW_sipush (v := 200) dX6_greatestDifference_21 (by decide) ?_
      refine mW_icmp_gt (tgt := 54) dX6_greatestDifference_24 (by decide) (fun c3 => ?_) (fun c3 => ?_)
      · refine mW_iload_n (j := 2) dX6_greatestDifference_54 rfl rfl ?_
        exact mW_iret dX6_greatestDifference_55 rfl (k3 c1 c2 c3)
      · refine mW_iload_n (j := 2) dX6_greatestDifference_27 rfl rfl ?_
        refine mW_aload_n (j := 0) dX6_greatestDifference_28 rfl rfl ?_
        refine mW_getR dX6_greatestDifference_29 f_X6_9 h1 rfl h3 ?_
        refine mW_iload_n (j := 3) dX6_greatestDifference_32 rfl rfl ?_
        refine mW_ialdJ dX6_greatestDifference_33 h4 (s1 c1 c2 c3) rfl ?_
        refine mW_aload_n (j := 1) dX6_greatestDifference_34 rfl rfl ?_
        refine mW_getR dX6_greatestDifference_35 f_X6_9 h2 rfl h5 ?_
        refine mW_iload_n (j := 3) dX6_greatestDifference_38 rfl rfl ?_
        refine mW_ialdJ dX6_greatestDifference_39 h6 (s2 c1 c2 c3) rfl ?_
        refine mW_isub dX6_greatestDifference_40 ?_
        refine mW_mabsA dX6_greatestDifference_41 u630 u631 u91 u632 (Nat.le_of_ble_eq_true rfl) (by decide) ?_
        refine mW_mmaxA dX6_greatestDifference_44 u644 u543 u91 u544 (Nat.le_of_ble_eq_true rfl) (by decide) ?_
        refine mW_istore_n (lv2 := [(2, .int (iMax x2 (aAbs ((hai w a0_0 x3.toNatClampNeg) - (hai w a1_0 x3.toNatClampNeg))))), (0, .ref a0), (1, .ref a1), (3, .int x3)]) dX6_greatestDifference_47 rfl (by decide) rfl ?_
        refine mW_iinc (j := 3) (v := x3 + 1) (lv2 := [(3, .int (x3 + 1)), (2, .int (iMax x2 (aAbs ((hai w a0_0 x3.toNatClampNeg) - (hai w a1_0 x3.toNatClampNeg))))), (0, .ref a0), (1, .ref a1)]) dX6_greatestDifference_48 rfl rfl (by decide) rfl ?_
        refine mW_goto (tgt := 4) dX6_greatestDifference_51 (by decide) ?_
        refine mW_loc [2, 3, 1, 0] (lv2 := [(0, .ref a0), (1, .ref a1), (2, .int (iMax x2 (aAbs ((hai w a0_0 x3.toNatClampNeg) - (hai w a1_0 x3.toNatClampNeg))))), (3, .int (x3 + 1))]) rfl ?_
        exact k4 c1 c2 c3
abbrev mX6_firstDifference : mM := (yX6_firstDifference, cX6_firstDifference, 3, (some .int), [])
set_option maxHeartbeats 4000000 in
set_option maxRecDepth 100000 in
theorem gX6_firstDifference_0 {G : mG} {w : mH} {Φ : mF} {a0 a1 : Nat}  (k1 : mW G mX6_firstDifference 1 0 0 2 [(0, .ref a0), (1, .ref a1), (2, .int 0)] [] w Φ) : mW G mX6_firstDifference 1 0 0 0 [(0, .ref a0), (1, .ref a1)] [] w Φ := by
  refine mW_iconst (v := 0) dX6_firstDifference_0 (by decide) ?_
  refine mW_istore_n (lv2 := [(2, .int 0), (0, .ref a0), (1, .ref a1)]) dX6_firstDifference_1 rfl (by decide) rfl ?_
  refine mW_loc [1, 2, 0] (lv2 := [(0, .ref a0), (1, .ref a1), (2, .int 0)]) rfl ?_
  exact k1
set_option maxHeartbeats 4000000 in
set_option maxRecDepth 100000 in
theorem gX6_firstDifference_2 {G : mG} {w : mH} {Φ : mF} {a0 a1 : Nat} {x2 : Int32} {a0_0 n_a0_0 a1_0 n_a1_0 : Nat} (h1 : hk w a0 = (6, 0)) (h2 : hk w a1 = (6, 0)) (h3 : hfr w a0 0 = some a0_0) (h4 : hk w a0_0 = (16, n_a0_0)) (s1 : (¬ ((hfi w a0 6) < x2)) → (¬ ((hfi w a1 6) < x2)) → (¬ (200 < x2)) → vp_in x2 n_a0_0) (h5 : hfr w a1 0 = some a1_0) (h6 : hk w a1_0 = (16, n_a1_0)) (s2 : (¬ ((hfi w a0 6) < x2)) → (¬ ((hfi w a1 6) < x2)) → (¬ (200 < x2)) → vp_in x2 n_a1_0) (k1 : ((hfi w a0 6) < x2) → Φ (.inl (some (.int (-1)))) w) (k2 : (¬ ((hfi w a0 6) < x2)) → ((hfi w a1 6) < x2) → Φ (.inl (some (.int (-1)))) w) (k3 : (¬ ((hfi w a0 6) < x2)) → (¬ ((hfi w a1 6) < x2)) → (200 < x2) → Φ (.inl (some (.int (-1)))) w) (k4 : (¬ ((hfi w a0 6) < x2)) → (¬ ((hfi w a1 6) < x2)) → (¬ (200 < x2)) → ((hai w a0_0 x2.toNatClampNeg) = (hai w a1_0 x2.toNatClampNeg)) → mW G mX6_firstDifference 1 0 0 2 [(0, .ref a0), (1, .ref a1), (2, .int (x2 + 1))] [] w Φ) (k5 : (¬ ((hfi w a0 6) < x2)) → (¬ ((hfi w a1 6) < x2)) → (¬ (200 < x2)) → (¬ ((hai w a0_0 x2.toNatClampNeg) = (hai w a1_0 x2.toNatClampNeg))) → Φ (.inl (some (.int x2))) w) : mW G mX6_firstDifference 1 0 0 2 [(0, .ref a0), (1, .ref a1), (2, .int x2)] [] w Φ := by
  refine mW_iload_n (j := 2) dX6_firstDifference_2 rfl rfl ?_
  refine mW_aload_n (j := 0) dX6_firstDifference_3 rfl rfl ?_
  refine mW_get dX6_firstDifference_4 f_X6_30 h1 rfl ?_
  refine mW_icmp_gt (tgt := 48) dX6_firstDifference_7 (by decide) (fun c1 => ?_) (fun c1 => ?_)
  · refine mW_iconst (v := (-1)) dX6_firstDifference_48 (by decide) ?_
    exact mW_iret dX6_firstDifference_49 rfl (k1 c1)
  · refine mW_iload_n (j := 2) dX6_firstDifference_10 rfl rfl ?_
    refine mW_aload_n (j := 1) dX6_firstDifference_11 rfl rfl ?_
    refine mW_get dX6_firstDifference_12 f_X6_30 h2 rfl ?_
    refine mW_icmp_gt (tgt := 48) dX6_firstDifference_15 (by decide) (fun c2 => ?_) (fun c2 => ?_)
    · refine mW_iconst (v := (-1)) dX6_firstDifference_48 (by decide) ?_
      exact mW_iret dX6_firstDifference_49 rfl (k2 c1 c2)
    · refine mW_iload_n (j := 2) dX6_firstDifference_18 rfl rfl ?_
      refine mW_sipush (v := 200) dX6_firstDifference_19 (by decide) ?_
      refine mW_icmp_gt (tgt := 48) dX6_firstDifference_22 (by decide) (fun c3 => ?_) (fun c3 => ?_)
      · refine mW_iconst (v := (-1)) dX6_firstDifference_48 (by decide) ?_
        exact mW_iret dX6_firstDifference_49 rfl (k3 c1 c2 c3)
      · refine mW_aload_n (j := 0) dX6_firstDifference_25 rfl rfl ?_
        refine mW_getR dX6_firstDifference_26 f_X6_9 h1 rfl h3 ?_
        refine mW_iload_n (j := 2) dX6_firstDifference_29 rfl rfl ?_
        refine mW_ialdJ dX6_firstDifference_30 h4 (s1 c1 c2 c3) rfl ?_
        refine mW_aload_n (j := 1) dX6_firstDifference_31 rfl rfl ?_
        refine mW_getR dX6_firstDifference_32 f_X6_9 h2 rfl h5 ?_
        refine mW_iload_n (j := 2) dX6_firstDifference_35 rfl rfl ?_
        refine mW_ialdJ dX6_firstDifference_36 h6 (s2 c1 c2 c3) rfl ?_
        refine mW_icmp_eq (tgt := 42) dX6_firstDifference_37 (by decide) (fun c4 => ?_) (fun c4 => ?_)
        · refine mW_iinc (j := 2) (v := x2 + 1) (lv2 := [(2, .int (x2 + 1)), (0, .ref a0), (1, .ref a1)]) dX6_firstDifference_42 rfl rfl (by decide) rfl ?_
          refine mW_goto (tgt := 2) dX6_firstDifference_45 (by decide) ?_
          refine mW_loc [1, 2, 0] (lv2 := [(0, .ref a0), (1, .ref a1), (2, .int (x2 + 1))]) rfl ?_
          exact k4 c1 c2 c3 c4
        · refine mW_iload_n (j := 2) dX6_firstDifference_40 rfl rfl ?_
          exact mW_iret dX6_firstDifference_41 rfl (k5 c1 c2 c3 c4)
abbrev mX6_lesserErrors : mM := (yX6_lesserErrors, cX6_lesserErrors, 4, (some .int), [])
set_option maxHeartbeats 4000000 in
set_option maxRecDepth 100000 in
theorem gX6_lesserErrors_0 {G : mG} {w : mH} {Φ : mF} {a0 a1 : Nat}  (k1 : mW G mX6_lesserErrors 1 0 0 4 [(0, .ref a0), (1, .ref a1), (2, .int 0), (3, .int 0)] [] w Φ) : mW G mX6_lesserErrors 1 0 0 0 [(0, .ref a0), (1, .ref a1)] [] w Φ := by
  refine mW_iconst (v := 0) dX6_lesserErrors_0 (by decide) ?_
  refine mW_istore_n (lv2 := [(2, .int 0), (0, .ref a0), (1, .ref a1)]) dX6_lesserErrors_1 rfl (by decide) rfl ?_
  refine mW_iconst (v := 0) dX6_lesserErrors_2 (by decide) ?_
  refine mW_istore_n (lv2 := [(3, .int 0), (2, .int 0), (0, .ref a0), (1, .ref a1)]) dX6_lesserErrors_3 rfl (by decide) rfl ?_
  refine mW_loc [2, 3, 1, 0] (lv2 := [(0, .ref a0), (1, .ref a1), (2, .int 0), (3, .int 0)]) rfl ?_
  exact k1
set_option maxHeartbeats 4000000 in
set_option maxRecDepth 100000 in
theorem gX6_lesserErrors_4 {G : mG} {w : mH} {Φ : mF} {a0 a1 : Nat} {x2 x3 : Int32} {a0_0 n_a0_0 a1_0 n_a1_0 : Nat} (h1 : hk w a0 = (6, 0)) (h2 : hk w a1 = (6, 0)) (h3 : hfr w a0 0 = some a0_0) (h4 : hk w a0_0 = (16, n_a0_0)) (s1 : (¬ ((hfi w a0 6) < x3)) → (¬ ((hfi w a1 6) < x3)) → (¬ (200 < x3)) → vp_in x3 n_a0_0) (h5 : hfr w a1 0 = some a1_0) (h6 : hk w a1_0 = (16, n_a1_0)) (s2 : (¬ ((hfi w a0 6) < x3)) → (¬ ((hfi w a1 6) < x3)) → (¬ (200 < x3)) → vp_in x3 n_a1_0) (k1 : ((hfi w a0 6) < x3) → Φ (.inl (some (.int x2))) w) (k2 : (¬ ((hfi w a0 6) < x3)) → ((hfi w a1 6) < x3) → Φ (.inl (some (.int x2))) w) (k3 : (¬ ((hfi w a0 6) < x3)) → (¬ ((hfi w a1 6) < x3)) → (200 < x3) → Φ (.inl (some (.int x2))) w) (k4 : (¬ ((hfi w a0 6) < x3)) → (¬ ((hfi w a1 6) < x3)) → (¬ (200 < x3)) → ((aAbs (hai w a1_0 x3.toNatClampNeg)) ≤ (aAbs (hai w a0_0 x3.toNatClampNeg))) → mW G mX6_lesserErrors 1 0 0 4 [(0, .ref a0), (1, .ref a1), (2, .int x2), (3, .int (x3 + 1))] [] w Φ) (k5 : (¬ ((hfi w a0 6) < x3)) → (¬ ((hfi w a1 6) < x3)) → (¬ (200 < x3)) → (¬ ((aAbs (hai w a1_0 x3.toNatClampNeg)) ≤ (aAbs (hai w a0_0 x3.toNatClampNeg)))) → mW G mX6_lesserErrors 1 0 0 4 [(0, .ref a0), (1, .ref a1), (2, .int (x2 + 1)), (3, .int (x3 + 1))] [] w Φ) : mW G mX6_lesserErrors 1 0 0 4 [(0, .ref a0), (1, .ref a1), (2, .int x2), (3, .int x3)] [] w Φ := by
  refine mW_iload_n (j := 3) dX6_lesserErrors_4 rfl rfl ?_
  refine mW_aload_n (j := 0) dX6_lesserErrors_5 rfl rfl ?_
  refine mW_get dX6_lesserErrors_6 f_X6_30 h1 rfl ?_
  refine mW_icmp_gt (tgt := 57) dX6_lesserErrors_9 (by decide) (fun c1 => ?_) (fun c1 => ?_)
  · refine mW_iload_n (j := 2) dX6_lesserErrors_57 rfl rfl ?_
    exact mW_iret dX6_lesserErrors_58 rfl (k1 c1)
  · refine mW_iload_n (j := 3) dX6_lesserErrors_12 rfl rfl ?_
    refine mW_aload_n (j := 1) dX6_lesserErrors_13 rfl rfl ?_
    refine mW_get dX6_lesserErrors_14 f_X6_30 h2 rfl ?_
    refine mW_icmp_gt (tgt := 57) dX6_lesserErrors_17 (by decide) (fun c2 => ?_) (fun c2 => ?_)
    · refine mW_iload_n (j := 2) dX6_lesserErrors_57 rfl rfl ?_
      exact mW_iret dX6_lesserErrors_58 rfl (k2 c1 c2)
    · refine mW_iload_n (j := 3) dX6_lesserErrors_20 rfl rfl ?_
      refine mW_sipush (v := 200) dX6_lesserErrors_21 (by decide) ?_
      refine mW_icmp_gt (tgt := 57) dX6_lesserErrors_24 (by decide) (fun c3 => ?_) (fun c3 => ?_)
      · refine mW_iload_n (j := 2) dX6_lesserErrors_57 rfl rfl ?_
        exact mW_iret dX6_lesserErrors_58 rfl (k3 c1 c2 c3)
      · refine mW_aload_n (j := 0) dX6_lesserErrors_27 rfl rfl ?_
        refine mW_getR dX6_lesserErrors_28 f_X6_9 h1 rfl h3 ?_
        refine mW_iload_n (j := 3) dX6_lesserErrors_31 rfl rfl ?_
        refine mW_ialdJ dX6_lesserErrors_32 h4 (s1 c1 c2 c3) rfl ?_
        refine mW_mabsA dX6_lesserErrors_33 u630 u631 u91 u632 (Nat.le_of_ble_eq_true rfl) (by decide) ?_
        refine mW_aload_n (j := 1) dX6_lesserErrors_36 rfl rfl ?_
        refine mW_getR dX6_lesserErrors_37 f_X6_9 h2 rfl h5 ?_
        refine mW_iload_n (j := 3) dX6_lesserErrors_40 rfl rfl ?_
        refine mW_ialdJ dX6_lesserErrors_41 h6 (s2 c1 c2 c3) rfl ?_
        refine mW_mabsA dX6_lesserErrors_42 u630 u631 u91 u632 (Nat.le_of_ble_eq_true rfl) (by decide) ?_
        refine mW_icmp_ge (tgt := 51) dX6_lesserErrors_45 (by decide) (fun c4 => ?_) (fun c4 => ?_)
        · refine mW_iinc (j := 3) (v := x3 + 1) (lv2 := [(3, .int (x3 + 1)), (0, .ref a0), (1, .ref a1), (2, .int x2)]) dX6_lesserErrors_51 rfl rfl (by decide) rfl ?_
          refine mW_goto (tgt := 4) dX6_lesserErrors_54 (by decide) ?_
          refine mW_loc [1, 2, 3, 0] (lv2 := [(0, .ref a0), (1, .ref a1), (2, .int x2), (3, .int (x3 + 1))]) rfl ?_
          exact k4 c1 c2 c3 c4
        · refine mW_iinc (j := 2) (v := x2 + 1) (lv2 := [(2, .int (x2 + 1)), (0, .ref a0), (1, .ref a1), (3, .int x3)]) dX6_lesserErrors_48 rfl rfl (by decide) rfl ?_
          refine mW_iinc (j := 3) (v := x3 + 1) (lv2 := [(3, .int (x3 + 1)), (2, .int (x2 + 1)), (0, .ref a0), (1, .ref a1)]) dX6_lesserErrors_51 rfl rfl (by decide) rfl ?_
          refine mW_goto (tgt := 4) dX6_lesserErrors_54 (by decide) ?_
          refine mW_loc [2, 3, 1, 0] (lv2 := [(0, .ref a0), (1, .ref a1), (2, .int (x2 + 1)), (3, .int (x3 + 1))]) rfl ?_
          exact k5 c1 c2 c3 c4
theorem qX6_sumOfErrors {G : mG} {w : mH} {a0 : Nat} {e : Nat → Nat} {N : Nat}  (T : tAt w a0 e N) : mC G mX6_sumOfErrors 1 0 0 [.ref a0] w (mEq (.inl (some (.int (fSum (hai w (e 0)) (N + 1))))) w) := by
  obtain ⟨h1, hr, h3, h4, hN, hb⟩ := T
  refine mC_of (by decide +kernel) rfl (Nat.le_of_ble_eq_true rfl) rfl ?_
  refine gX6_sumOfErrors_0 ?_
  refine m_up (N := N) (P := fun i => mW G mX6_sumOfErrors 1 0 0 4 [(0, .ref a0), (1, .int (fSum (hai w (e 0)) i)), (2, .int (nI i))] [] w _) ?_ ?_ 0 (by omega)
  · refine gX6_sumOfErrors_4 h1 (hr 0 (by decide)) h3 (fun c1 c2 => ?_) (fun c1 => mEq_rf) (fun c1 c2 => mEq_rf) (fun c1 c2 => ?_)
    all_goals (rw [hN, m_lt (by omega) (by omega)] at c1; omega)
  · intro i hi ih
    refine gX6_sumOfErrors_4 h1 (hr 0 (by decide)) h3 (fun c1 c2 => m_vp (by omega) (by omega)) (fun c1 => ?_) (fun c1 c2 => ?_) (fun c1 c2 => ?_)
    · rw [hN, m_lt (by omega) (by omega)] at c1; omega
    · rw [m_200 (by omega)] at c2; omega
    · rw [m_cl (by omega), nI_1]; exact ih
theorem qX6_greatestError {G : mG} {w : mH} {a0 : Nat} {e : Nat → Nat} {N : Nat}  (T : tAt w a0 e N) : mC G mX6_greatestError 1 0 0 [.ref a0] w (mEq (.inl (some (.int (fMax (hai w (e 0)) N)))) w) := by
  obtain ⟨h1, hr, h3, h4, hN, hb⟩ := T
  refine mC_of (by decide +kernel) rfl (Nat.le_of_ble_eq_true rfl) rfl ?_
  refine gX6_greatestError_0 ?_
  refine m_up0 (N := N) (P := fun i => mW G mX6_greatestError 1 0 0 4 [(0, .ref a0), (1, .int (fMax (hai w (e 0)) i)), (2, .int (nI (i + 1)))] [] w _) ?_ ?_ 0 (by omega)
  · refine gX6_greatestError_4 h1 (hr 0 (by decide)) h3 (fun c1 c2 => ?_) (fun c1 => mEq_rf) (fun c1 c2 => mEq_rf) (fun c1 c2 => ?_)
    all_goals (rw [hN, m_lt (by omega) (by omega)] at c1; omega)
  · intro i hi ih
    refine gX6_greatestError_4 h1 (hr 0 (by decide)) h3 (fun c1 c2 => m_vp (by omega) (by omega)) (fun c1 => ?_) (fun c1 c2 => ?_) (fun c1 c2 => ?_)
    · rw [hN, m_lt (by omega) (by omega)] at c1; omega
    · rw [m_200 (by omega)] at c2; omega
    · rw [m_cl (by omega), nI_1]; exact ih
theorem qX6_overshoot {G : mG} {w : mH} {a0 : Nat} {e : Nat → Nat} {N : Nat}  (T : tAt w a0 e N) : mC G mX6_overshoot 2 0 0 [.ref a0] w (mEq (.inl (some (.int (fOver (hai w (e 0)) N)))) w) := by
  obtain ⟨h1, hr, h3, h4, hN, hb⟩ := T
  refine mC_of (by decide +kernel) rfl (Nat.le_of_ble_eq_true rfl) rfl ?_
  refine gX6_overshoot_0 ?_
  refine m_up0 (N := N) (P := fun i => mW G mX6_overshoot 2 0 0 4 [(0, .ref a0), (1, .int (fOver (hai w (e 0)) i)), (2, .int (nI (i + 1)))] [] w _) ?_ ?_ 0 (by omega)
  · refine gX6_overshoot_4 h1 (hr 0 (by decide)) h3 (fun c1 c2 => ?_) (fun c1 c2 => ?_) (fun c1 => mEq_rf) (fun c1 c2 => mEq_rf) (fun c1 c2 c3 => ?_) (fun c1 c2 c3 => ?_)
    all_goals (rw [hN, m_lt (by omega) (by omega)] at c1; omega)
  · intro i hi ih
    refine gX6_overshoot_4 h1 (hr 0 (by decide)) h3 (fun c1 c2 => m_vp (a := 0) (by omega) (by omega)) (fun c1 c2 => m_vp (by omega) (by omega)) (fun c1 => ?_) (fun c1 c2 => ?_) (fun c1 c2 c3 => ?_) (fun c1 c2 c3 => ?_)
    · rw [hN, m_lt (by omega) (by omega)] at c1; omega
    · rw [m_200 (by omega)] at c2; omega
    · rw [m_cl (by omega)] at c3
      rw [nI_1]
      have e1 : fOver (hai w (e 0)) (i + 1) = fOver (hai w (e 0)) i := by rw [fOver, if_pos c3]
      rw [← e1]; exact ih
    · rw [m_cl (by omega)] at c3 ⊢
      rw [nI_1]
      have e1 : fOver (hai w (e 0)) (i + 1) = iMax (fOver (hai w (e 0)) i) (aAbs (hai w (e 0) (i + 1))) := by rw [fOver, if_neg c3]
      rw [e1] at ih; exact ih
def tDn : Nat → Int32 | 0 => -1 | k + 1 => nI k
theorem qX6_settlingStep {G : mG} {w : mH} {a0 : Nat} {e : Nat → Nat} {N : Nat} {x1 : Int32} (T : tAt w a0 e N) : mC G mX6_settlingStep 1 0 0 [.ref a0, .int x1] w (mEq (.inl (some (.int (fSet (hai w (e 0)) x1 N)))) w) := by
  obtain ⟨h1, hr, h3, h4, hN, hb⟩ := T
  refine mC_of (by decide +kernel) rfl (Nat.le_of_ble_eq_true rfl) rfl ?_
  refine gX6_settlingStep_0 h1 ?_
  have h0 : iMin (hfi w a0 6) 200 = tDn (N + 1) := by
    unfold iMin
    rw [hN, if_neg (by rw [m_200 (by omega)]; omega)]; rfl
  rw [h0]
  have key : ∀ k, k ≤ N + 1 → fT (hai w (e 0)) x1 (N + 1) = fT (hai w (e 0)) x1 k → mW G mX6_settlingStep 1 0 0 13 [(0, .ref a0), (1, .int x1), (2, .int (if k = N + 1 then -1 else nI k)), (3, .int (tDn k))] [] w (mEq (.inl (some (.int (fSet (hai w (e 0)) x1 N)))) w) := by
    intro k
    induction k with
    | zero =>
      intro hk hf
      refine gX6_settlingStep_13 h1 (hr 0 (by decide)) h3 (fun c1 => absurd (by decide) c1) (fun c1 => ⟨?_, rfl⟩) (fun c1 c2 => absurd (by decide) c1) (fun c1 c2 => absurd (by decide) c1)
      unfold fSet
      rw [hf]
      rfl
    | succ k ih =>
      intro hk hf
      refine gX6_settlingStep_13 h1 (hr 0 (by decide)) h3 (fun c1 => m_vp (by omega) (by omega)) (fun c1 => absurd c1 (m_0le (by omega))) (fun c1 c2 => ⟨?_, rfl⟩) (fun c1 c2 => ?_)
      · rw [show tDn (k + 1) = nI k from rfl, m_cl (by omega)] at c2
        have e1 : fT (hai w (e 0)) x1 (k + 1) = k + 1 := by rw [fT, if_pos c2]
        unfold fSet
        rw [hf, e1]
      · rw [show tDn (k + 1) = nI k from rfl, m_cl (by omega)] at c2
        have e1 : fT (hai w (e 0)) x1 (k + 1) = fT (hai w (e 0)) x1 k := by rw [fT, if_neg c2]
        have e2 : tDn (k + 1) + (-1) = tDn k := by
          cases k with
          | zero => decide
          | succ j => exact pk_m1 j
        have e3 := ih (by omega) (hf.trans e1)
        rw [if_neg (by omega)] at e3
        rw [e2]
        exact e3
  have e9 := key (N + 1) (Nat.le_refl _) rfl
  rw [if_pos rfl] at e9
  exact e9
theorem qX6_crossings {G : mG} {w : mH} {a0 : Nat} {e : Nat → Nat} {N : Nat}  (T : tAt w a0 e N) : mC G mX6_crossings 2 0 0 [.ref a0] w (mEq (.inl (some (.int (fCross (hai w (e 0)) N)))) w) := by
  obtain ⟨h1, hr, h3, h4, hN, hb⟩ := T
  refine mC_of (by decide +kernel) rfl (Nat.le_of_ble_eq_true rfl) rfl ?_
  refine gX6_crossings_0 ?_
  refine m_up0 (N := N) (P := fun i => mW G mX6_crossings 2 0 0 4 [(0, .ref a0), (1, .int (fCross (hai w (e 0)) i)), (2, .int (nI i))] [] w _) ?_ ?_ 0 (by omega)
  · refine gX6_crossings_4 h1 (hr 0 (by decide)) h3 (fun c1 c2 => ?_) (fun c1 c2 => ?_) (fun c1 => mEq_rf) (fun c1 c2 => mEq_rf) (fun c1 c2 c3 => ?_) (fun c1 c2 c3 => ?_)
    all_goals (rw [hN, m_le (by omega) (by omega)] at c1; omega)
  · intro i hi ih
    refine gX6_crossings_4 h1 (hr 0 (by decide)) h3 (fun c1 c2 => m_vp (by omega) (by omega)) (fun c1 c2 => by rw [nI_1]; exact m_vp (by omega) (by omega)) (fun c1 => ?_) (fun c1 c2 => ?_) (fun c1 c2 c3 => ?_) (fun c1 c2 c3 => ?_)
    · rw [hN, m_le (by omega) (by omega)] at c1; omega
    · rw [m_200' (by omega)] at c2; omega
    · rw [nI_1, m_cl (by omega), m_cl (by omega)] at c3
      rw [nI_1]
      have e1 : fCross (hai w (e 0)) (i + 1) = fCross (hai w (e 0)) i := by rw [fCross, if_pos c3]
      rw [← e1]; exact ih
    · rw [nI_1, m_cl (by omega), m_cl (by omega)] at c3
      rw [nI_1]
      have e1 : fCross (hai w (e 0)) (i + 1) = fCross (hai w (e 0)) i + 1 := by rw [fCross, if_neg c3]
      rw [← e1]; exact ih
theorem qX6_saturatedSteps {G : mG} {w : mH} {a0 : Nat} {e : Nat → Nat} {N : Nat}  (T : tAt w a0 e N) : mC G mX6_saturatedSteps 1 0 0 [.ref a0] w (mEq (.inl (some (.int (fSat (hai w (e 5)) N)))) w) := by
  obtain ⟨h1, hr, h3, h4, hN, hb⟩ := T
  refine mC_of (by decide +kernel) rfl (Nat.le_of_ble_eq_true rfl) rfl ?_
  refine gX6_saturatedSteps_0 ?_
  refine m_up0 (N := N) (P := fun i => mW G mX6_saturatedSteps 1 0 0 4 [(0, .ref a0), (1, .int (fSat (hai w (e 5)) i)), (2, .int (nI i))] [] w _) ?_ ?_ 0 (by omega)
  · refine gX6_saturatedSteps_4 h1 (hr 5 (by decide)) (h4 5 (by decide) (by decide)) (fun c1 c2 => ?_) (fun c1 => mEq_rf) (fun c1 c2 => mEq_rf) (fun c1 c2 => ?_)
    all_goals (rw [hN, m_le (by omega) (by omega)] at c1; omega)
  · intro i hi ih
    refine gX6_saturatedSteps_4 h1 (hr 5 (by decide)) (h4 5 (by decide) (by decide)) (fun c1 c2 => m_vp (by omega) (by omega)) (fun c1 => ?_) (fun c1 c2 => ?_) (fun c1 c2 => ?_)
    · rw [hN, m_le (by omega) (by omega)] at c1; omega
    · rw [m_200' (by omega)] at c2; omega
    · rw [m_cl (by omega), nI_1]; exact ih
theorem qX6_actuatorChanges {G : mG} {w : mH} {a0 : Nat} {e : Nat → Nat} {N : Nat}  (T : tAt w a0 e N) : mC G mX6_actuatorChanges 1 0 0 [.ref a0] w (mEq (.inl (some (.int (fAct (hai w (e 3)) N)))) w) := by
  obtain ⟨h1, hr, h3, h4, hN, hb⟩ := T
  refine mC_of (by decide +kernel) rfl (Nat.le_of_ble_eq_true rfl) rfl ?_
  refine gX6_actuatorChanges_0 ?_
  refine m_up0 (N := N) (P := fun i => mW G mX6_actuatorChanges 1 0 0 6 [(0, .ref a0), (1, .int (fAct (hai w (e 3)) i)), (2, .int (fPv (hai w (e 3)) i)), (3, .int (nI i))] [] w _) ?_ ?_ 0 (by omega)
  · refine gX6_actuatorChanges_6 h1 (hr 3 (by decide)) (h4 3 (by decide) (by decide)) (fun c1 c2 => ?_) (fun c1 => mEq_rf) (fun c1 c2 => mEq_rf) (fun c1 c2 => ?_)
    all_goals (rw [hN, m_le (by omega) (by omega)] at c1; omega)
  · intro i hi ih
    refine gX6_actuatorChanges_6 h1 (hr 3 (by decide)) (h4 3 (by decide) (by decide)) (fun c1 c2 => m_vp (by omega) (by omega)) (fun c1 => ?_) (fun c1 c2 => ?_) (fun c1 c2 => ?_)
    · rw [hN, m_le (by omega) (by omega)] at c1; omega
    · rw [m_200' (by omega)] at c2; omega
    · rw [m_cl (by omega), nI_1]; exact ih
theorem qX6_greatestDifference {G : mG} {w : mH} {a0 a1 : Nat} {e e' : Nat → Nat} {N N' : Nat} (T : tAt w a0 e N) (T' : tAt w a1 e' N') : mC G mX6_greatestDifference 1 0 0 [.ref a0, .ref a1] w (mEq (.inl (some (.int (fDif (hai w (e 0)) (hai w (e' 0)) (min N N' + 1))))) w) := by
  obtain ⟨h1, hr, h3, h4, hN, hb⟩ := T
  obtain ⟨h1', hr', h3', h4', hN', hb'⟩ := T'
  obtain ⟨K, hK⟩ : ∃ K, K = min N N' := ⟨_, rfl⟩
  rw [← hK]
  have hK1 : K ≤ N := by omega
  have hK2 : K ≤ N' := by omega
  have hK3 : K = N ∨ K = N' := by omega
  refine mC_of (by decide +kernel) rfl (Nat.le_of_ble_eq_true rfl) rfl ?_
  refine gX6_greatestDifference_0 ?_
  refine m_up (N := K) (P := fun i => mW G mX6_greatestDifference 1 0 0 4 [(0, .ref a0), (1, .ref a1), (2, .int (fDif (hai w (e 0)) (hai w (e' 0)) i)), (3, .int (nI i))] [] w _) ?_ ?_ 0 (by omega)
  · refine gX6_greatestDifference_4 h1 h1' (hr 0 (by decide)) h3 (fun c1 c2 c3 => ?_) (hr' 0 (by decide)) h3' (fun c1 c2 c3 => ?_) (fun c1 => mEq_rf) (fun c1 c2 => mEq_rf) (fun c1 c2 c3 => mEq_rf) (fun c1 c2 c3 => ?_)
    all_goals (rw [hN, m_lt (by omega) (by omega)] at c1; rw [hN', m_lt (by omega) (by omega)] at c2; omega)
  · intro i hi ih
    refine gX6_greatestDifference_4 h1 h1' (hr 0 (by decide)) h3 (fun c1 c2 c3 => m_vp (by omega) (by omega)) (hr' 0 (by decide)) h3' (fun c1 c2 c3 => m_vp (by omega) (by omega)) (fun c1 => ?_) (fun c1 c2 => ?_) (fun c1 c2 c3 => ?_) (fun c1 c2 c3 => ?_)
    · rw [hN, m_lt (by omega) (by omega)] at c1; omega
    · rw [hN', m_lt (by omega) (by omega)] at c2; omega
    · rw [m_200 (by omega)] at c3; omega
    · rw [m_cl (by omega), nI_1]; exact ih
theorem qX6_firstDifference {G : mG} {w : mH} {a0 a1 : Nat} {e e' : Nat → Nat} {N N' : Nat} (T : tAt w a0 e N) (T' : tAt w a1 e' N') : mC G mX6_firstDifference 1 0 0 [.ref a0, .ref a1] w (mEq (.inl (some (.int (fFst (hai w (e 0)) (hai w (e' 0)) 0 (min N N' + 1))))) w) := by
  obtain ⟨h1, hr, h3, h4, hN, hb⟩ := T
  obtain ⟨h1', hr', h3', h4', hN', hb'⟩ := T'
  obtain ⟨K, hK⟩ : ∃ K, K = min N N' := ⟨_, rfl⟩
  rw [← hK]
  have hK1 : K ≤ N := by omega
  have hK2 : K ≤ N' := by omega
  have hK3 : K = N ∨ K = N' := by omega
  refine mC_of (by decide +kernel) rfl (Nat.le_of_ble_eq_true rfl) rfl ?_
  refine gX6_firstDifference_0 ?_
  have key := m_up (N := K) (P := fun i => mW G mX6_firstDifference 1 0 0 2 [(0, .ref a0), (1, .ref a1), (2, .int (nI i))] [] w (mEq (.inl (some (.int (fFst (hai w (e 0)) (hai w (e' 0)) i (K + 1 - i))))) w)) ?_ ?_ 0 (by omega)
  · exact key
  · refine gX6_firstDifference_2 h1 h1' (hr 0 (by decide)) h3 (fun c1 c2 c3 => ?_) (hr' 0 (by decide)) h3' (fun c1 c2 c3 => ?_) (fun c1 => ?_) (fun c1 c2 => ?_) (fun c1 c2 c3 => ?_) (fun c1 c2 c3 c4 => ?_) (fun c1 c2 c3 c4 => ?_)
    all_goals first | (rw [Nat.sub_self]; exact mEq_rf) | (rw [hN, m_lt (by omega) (by omega)] at c1; rw [hN', m_lt (by omega) (by omega)] at c2; omega)
  · intro i hi ih
    have e1 : K + 1 - i = (K + 1 - (i + 1)) + 1 := by omega
    rw [e1]
    refine gX6_firstDifference_2 h1 h1' (hr 0 (by decide)) h3 (fun c1 c2 c3 => m_vp (by omega) (by omega)) (hr' 0 (by decide)) h3' (fun c1 c2 c3 => m_vp (by omega) (by omega)) (fun c1 => ?_) (fun c1 c2 => ?_) (fun c1 c2 c3 => ?_) (fun c1 c2 c3 c4 => ?_) (fun c1 c2 c3 c4 => ?_)
    · rw [hN, m_lt (by omega) (by omega)] at c1; omega
    · rw [hN', m_lt (by omega) (by omega)] at c2; omega
    · rw [m_200 (by omega)] at c3; omega
    · rw [m_cl (by omega)] at c4
      rw [nI_1, fFst, if_pos c4]; exact ih
    · rw [m_cl (by omega)] at c4
      rw [fFst, if_neg c4]; exact mEq_rf
theorem qX6_lesserErrors {G : mG} {w : mH} {a0 a1 : Nat} {e e' : Nat → Nat} {N N' : Nat} (T : tAt w a0 e N) (T' : tAt w a1 e' N') : mC G mX6_lesserErrors 1 0 0 [.ref a0, .ref a1] w (mEq (.inl (some (.int (fLes (hai w (e 0)) (hai w (e' 0)) (min N N' + 1))))) w) := by
  obtain ⟨h1, hr, h3, h4, hN, hb⟩ := T
  obtain ⟨h1', hr', h3', h4', hN', hb'⟩ := T'
  obtain ⟨K, hK⟩ : ∃ K, K = min N N' := ⟨_, rfl⟩
  rw [← hK]
  have hK1 : K ≤ N := by omega
  have hK2 : K ≤ N' := by omega
  have hK3 : K = N ∨ K = N' := by omega
  refine mC_of (by decide +kernel) rfl (Nat.le_of_ble_eq_true rfl) rfl ?_
  refine gX6_lesserErrors_0 ?_
  refine m_up (N := K) (P := fun i => mW G mX6_lesserErrors 1 0 0 4 [(0, .ref a0), (1, .ref a1), (2, .int (fLes (hai w (e 0)) (hai w (e' 0)) i)), (3, .int (nI i))] [] w _) ?_ ?_ 0 (by omega)
  · refine gX6_lesserErrors_4 h1 h1' (hr 0 (by decide)) h3 (fun c1 c2 c3 => ?_) (hr' 0 (by decide)) h3' (fun c1 c2 c3 => ?_) (fun c1 => mEq_rf) (fun c1 c2 => mEq_rf) (fun c1 c2 c3 => mEq_rf) (fun c1 c2 c3 c4 => ?_) (fun c1 c2 c3 c4 => ?_)
    all_goals (rw [hN, m_lt (by omega) (by omega)] at c1; rw [hN', m_lt (by omega) (by omega)] at c2; omega)
  · intro i hi ih
    refine gX6_lesserErrors_4 h1 h1' (hr 0 (by decide)) h3 (fun c1 c2 c3 => m_vp (by omega) (by omega)) (hr' 0 (by decide)) h3' (fun c1 c2 c3 => m_vp (by omega) (by omega)) (fun c1 => ?_) (fun c1 c2 => ?_) (fun c1 c2 c3 => ?_) (fun c1 c2 c3 c4 => ?_) (fun c1 c2 c3 c4 => ?_)
    · rw [hN, m_lt (by omega) (by omega)] at c1; omega
    · rw [hN', m_lt (by omega) (by omega)] at c2; omega
    · rw [m_200 (by omega)] at c3; omega
    · rw [m_cl (by omega)] at c4
      have e1 : fLes (hai w (e 0)) (hai w (e' 0)) (i + 1) = fLes (hai w (e 0)) (hai w (e' 0)) i := by rw [fLes]; exact if_pos c4
      rw [nI_1, ← e1]; exact ih
    · rw [m_cl (by omega)] at c4
      have e1 : fLes (hai w (e 0)) (hai w (e' 0)) (i + 1) = fLes (hai w (e 0)) (hai w (e' 0)) i + 1 := by rw [fLes]; exact if_neg c4
      rw [nI_1, ← e1]; exact ih
