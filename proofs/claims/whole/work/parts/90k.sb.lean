theorem u1083 : (Cond.methodLink "java/util/Arrays" 304 ⟨"java/lang/Math", "min", "(II)I"⟩ : Cond) ∈ mTs := mTs_in 1083 (by decide +kernel) (by decide +kernel)
theorem u1084 : (Cond.methodLink "java/util/Arrays" 150 ⟨"java/lang/System", "arraycopy", "(Ljava/lang/Object;ILjava/lang/Object;II)V"⟩ : Cond) ∈ mTs := mTs_in 1084 (by decide +kernel) (by decide +kernel)
theorem u311 : (Cond.arrayClass .byte : Cond) ∈ mTs := mTs_in 311 (by decide +kernel) (by decide +kernel)
abbrev mJ7_copyOf_9075b : mM := (yJ7_copyOf_9075b, cJ7_copyOf_9075b, 3, (some (.array .byte)), [])
/-- a byte that fits -/
def bF (x : Int32) : Prop := fits .byte (.int x) = true
theorem bF_n : ∀ k, k < 128 → bF (nI k) := by unfold bF; decide +kernel
theorem bF_0 : bF 0 := bF_n 0 (by decide)
/-- a letter -/
def cF (x : Int32) : Prop := x = nI x.toNatClampNeg ∧ x.toNatClampNeg < 128
theorem cF_b {x : Int32} (h : cF x) : bF x := by rw [h.1]; exact bF_n _ h.2
theorem cF_n {k : Nat} (h : k < 128) : cF (nI k) := by unfold cF; rw [m_cl (by omega)]; exact ⟨rfl, h⟩
theorem qCpy {G : mG} {w : mH} {p m K : Nat} (hp : hk w p = (19, m)) (hlt : p < hN w) (hf : ∀ i, i < m → bF (hai w p i)) (hm : m < K) (hK : K ≤ 142) : mC G mJ7_copyOf_9075b 2 1 142 [.ref p, .int (nI K)] w (fun o w' => o = .inl (some (.ref (hN w))) ∧ w' = sax (snew w (19, K)) (hN w) (va_cpy (hai w p) (fun _ => 0) 0 0 m)) := by
  refine mC_of (by decide +kernel) rfl (Nat.le_of_ble_eq_true rfl) rfl ?_
  refine mW_iload_n (j := 1) dJ7_copyOf_9075b_0 rfl rfl ?_
  refine mW_aload_n (j := 0) dJ7_copyOf_9075b_1 rfl rfl ?_
  refine mW_alen dJ7_copyOf_9075b_2 hp (by decide) (by decide) (by decide) ?_
  refine mW_icmp_ne (tgt := 14) dJ7_copyOf_9075b_3 (by decide) (fun c1 => ?_) (fun c1 => absurd (by have := congrArg Int32.toNatClampNeg c1; rw [m_cl (by omega), m_cl (by omega)] at this; exact this) (show ¬ K = m by omega))
  refine mW_iload_n (j := 1) dJ7_copyOf_9075b_14 rfl rfl ?_
  refine mW_newB (N := K) (kc2 := 0) (ks2 := 142 - K) dJ7_copyOf_9075b_15 u311 (m_0le (by omega)) (m_cl (by omega)) (by omega) rfl (by omega) ?_
  have hp1 : hk (snew w (19, K)) p = (19, m) := by show va_up (hk w) (hN w) (19, K) p = _; rw [va_up_ne _ _ (by omega)]; exact hp
  have hq1 : hk (snew w (19, K)) (hN w) = (19, K) := by show va_up (hk w) (hN w) (19, K) (hN w) = _; rw [va_up_self]
  have ap : hai (snew w (19, K)) p = hai w p := by show va_up (hai w) (hN w) (fun _ => 0) p = _; rw [va_up_ne _ _ (by omega)]
  have aq : hai (snew w (19, K)) (hN w) = fun _ => 0 := by show va_up (hai w) (hN w) (fun _ => 0) (hN w) = _; rw [va_up_self]
  have em : (iMin (nI m) (nI K)).toNatClampNeg = m := by
    unfold iMin
    rw [if_neg (by rw [m_lt (by omega) (by omega)]; omega)]
    exact m_cl (by omega)
  have en : ¬ iMin (nI m) (nI K) < 0 := by
    unfold iMin
    rw [if_neg (by rw [m_lt (by omega) (by omega)]; omega)]
    exact m_0le (by omega)
  refine mW_astore_n (lv2 := [(2, .ref (hN w)), (0, .ref p), (1, .int (nI K))]) dJ7_copyOf_9075b_17 rfl (by decide) rfl ?_
  refine mW_aload_n (j := 1) dJ7_copyOf_9075b_18 rfl rfl ?_
  refine mW_iconst (v := 0) dJ7_copyOf_9075b_19 (by decide) ?_
  refine mW_aload_n (j := 0) dJ7_copyOf_9075b_20 rfl rfl ?_
  refine mW_iconst (v := 0) dJ7_copyOf_9075b_21 (by decide) ?_
  refine mW_aload_n (j := 1) dJ7_copyOf_9075b_22 rfl rfl ?_
  refine mW_alen dJ7_copyOf_9075b_23 hp1 (by decide) (by decide) (by decide) ?_
  refine mW_iload_n (j := 2) dJ7_copyOf_9075b_24 rfl rfl ?_
  refine mW_mminA dJ7_copyOf_9075b_25 u1083 u500 u91 u501 (Nat.le_of_ble_eq_true rfl) (by decide) ?_
  refine mW_copyB dJ7_copyOf_9075b_28 u1084 u504 u503 u92 hp1 hq1 (by decide) (by decide) en (by rw [em, show (0 : Int32).toNatClampNeg = 0 from rfl]; omega) (by rw [em, show (0 : Int32).toNatClampNeg = 0 from rfl]; omega) (fun i hi => by rw [ap]; exact hf i hi) (Nat.le_of_ble_eq_true rfl) (by decide) ?_
  refine mW_aload_n (j := 0) dJ7_copyOf_9075b_31 rfl rfl ?_
  refine mW_aret (v := .ref (hN w)) dJ7_copyOf_9075b_32 rfl (Or.inr ⟨_, rfl⟩) (Or.inr ⟨_, rfl⟩) ⟨rfl, ?_⟩
  rw [ap, aq, em]
  rfl
/-- what is not the builder's has stayed -/
def dF (s p0 : Nat) (w0 w : mH) : Prop := hN w0 ≤ hN w ∧ ∀ q, q < hN w0 → hk w q = hk w0 q ∧ (q ≠ s → hfi w q = hfi w0 q ∧ hfr w q = hfr w0 q) ∧ (q ≠ p0 → hai w q = hai w0 q) ∧ hfl w q = hfl w0 q ∧ hal w q = hal w0 q ∧ har w q = har w0 q
/-- the builder at s (its row of bytes p0 at w0): it holds the text L, in the row p of m bytes -/
def dX (s p0 : Nat) (w0 w : mH) (L : List Int32) (p m : Nat) : Prop := dF s p0 w0 w ∧ s < hN w0 ∧ p0 < hN w0 ∧ hk w s = (12, 0) ∧ hfr w s 0 = some p ∧ hk w p = (19, m) ∧ (m = 16 ∨ m = 34 ∨ m = 70 ∨ m = 142) ∧ hfi w s 1 = 0 ∧ hfi w s 3 = nI L.length ∧ L.length ≤ m ∧ (∀ i, i < L.length → hai w p i = L.getD i 0) ∧ (∀ i, i < m → bF (hai w p i)) ∧ (p = p0 ∨ hN w0 ≤ p) ∧ p < hN w ∧ s ≠ p ∧ ∀ i, i < L.length → cF (L.getD i 0)
def dS (s p0 : Nat) (w0 w : mH) (L : List Int32) : Prop := ∃ p m, dX s p0 w0 w L p m
abbrev mJ5_ensureCapacityInternal_d00df : mM := (yJ5_ensureCapacityInternal_d00df, cJ5_ensureCapacityInternal_d00df, 3, none, [])
theorem u1065 : (Cond.code ⟨"java/lang/AbstractStringBuilder", "newCapacity", "(I)I"⟩ prog_15_method_10_code 6 (some .int) : Cond) ∈ mTs := mTs_in 1065 (by decide +kernel) (by decide +kernel)
theorem u77 : (Cond.initialized "java/lang/AbstractStringBuilder" : Cond) ∈ mTs := mTs_in 77 (by decide +kernel) (by decide +kernel)
theorem co_J5_newCapacity_0f7a4 : mCode mJ5_newCapacity_0f7a4 := ⟨u1065, u77, by decide⟩
theorem u1062 : (Cond.methodLink "java/lang/AbstractStringBuilder" 104 ⟨"java/lang/AbstractStringBuilder", "newCapacity", "(I)I"⟩ : Cond) ∈ mTs := mTs_in 1062 (by decide +kernel) (by decide +kernel)
theorem v1063 : (Cond.privateMethod ⟨"java/lang/AbstractStringBuilder", "newCapacity", "(I)I"⟩ : Cond) ∈ lw_tbl := List.mem_of_getElem? (i := 1063) (by decide +kernel)
theorem u1088 : (Cond.selects "java/lang/StringBuilder" ⟨"java/lang/AbstractStringBuilder", "isLatin1", "()Z"⟩ ⟨"java/lang/AbstractStringBuilder", "isLatin1", "()Z"⟩ : Cond) ∈ mTs := mTs_in 1088 (by decide +kernel) (by decide +kernel)
theorem u1064 : (Cond.instanceMethod ⟨"java/lang/AbstractStringBuilder", "newCapacity", "(I)I"⟩ : Cond) ∈ mTs := mTs_in 1064 (by decide +kernel) (by decide +kernel)
theorem u1992 : (Cond.sameMethod "java/lang/AbstractStringBuilder" "java/lang/AbstractStringBuilder" "newCapacity" "(I)I" : Cond) ∈ mTs := mTs_in 1992 (by decide +kernel) (by decide +kernel)
theorem l_J5_104 : mLinkU "java/lang/AbstractStringBuilder" 104 1 mJ5_newCapacity_0f7a4 "java/lang/StringBuilder" := ⟨⟨by decide, by decide, by decide +kernel⟩, co_J5_newCapacity_0f7a4, u1062, u1064, u1992, Or.inr ⟨v1063, ⟨"java/lang/AbstractStringBuilder", "isLatin1", "()Z"⟩, rfl, u1088⟩⟩
set_option maxHeartbeats 4000000 in
set_option maxRecDepth 100000 in
theorem gJ5_ensureCapacityInternal_d00df_0 {G : mG} {w : mH} {Φ : mF} {a0 : Nat} {x1 : Int32} {a0_0 n_a0_0 : Nat} (h1 : hk w a0 = (12, 0)) (h2 : hfr w a0 0 = some a0_0) (h3 : hk w a0_0 = (19, n_a0_0)) (k1 : ((x1 - ((nI n_a0_0) >>> ((hfi w a0 1) &&& 31))) ≤ 0) → Φ (.inl none) w) (k2 : (¬ ((x1 - ((nI n_a0_0) >>> ((hfi w a0 1) &&& 31))) ≤ 0)) → mC G mJ5_newCapacity_0f7a4 3 0 0 [.ref a0, .int x1] w (mRi G mJ5_ensureCapacityInternal_d00df 4 1 142 27 [(2, .int ((nI n_a0_0) >>> ((hfi w a0 1) &&& 31))), (0, .ref a0), (1, .int x1)] [.ref a0_0, .ref a0] Φ)) : mW G mJ5_ensureCapacityInternal_d00df 4 1 142 0 [(0, .ref a0), (1, .int x1)] [] w Φ := by
  refine mW_aload_n (j := 0) dJ5_ensureCapacityInternal_d00df_0 rfl rfl ?_
  refine mW_getR dJ5_ensureCapacityInternal_d00df_1 f_J5_15 h1 rfl h2 ?_
  refine mW_alen dJ5_ensureCapacityInternal_d00df_4 h3 (by decide) (by decide) (by decide) ?_
  refine mW_aload_n (j := 0) dJ5_ensureCapacityInternal_d00df_5 rfl rfl ?_
  refine mW_get dJ5_ensureCapacityInternal_d00df_6 f_J5_22 h1 rfl ?_
  refine mW_ishr dJ5_ensureCapacityInternal_d00df_9 ?_
  refine mW_istore_n (lv2 := [(2, .int ((nI n_a0_0) >>> ((hfi w a0 1) &&& 31))), (0, .ref a0), (1, .int x1)]) dJ5_ensureCapacityInternal_d00df_10 rfl (by decide) rfl ?_
  refine mW_iload_n (j := 2) dJ5_ensureCapacityInternal_d00df_11 rfl rfl ?_
  refine mW_iload_n (j := 0) dJ5_ensureCapacityInternal_d00df_12 rfl rfl ?_
  refine mW_isub dJ5_ensureCapacityInternal_d00df_13 ?_
  refine mW_if_le (tgt := 38) dJ5_ensureCapacityInternal_d00df_14 (by decide) (fun c1 => ?_) (fun c1 => ?_)
  · exact mW_vret dJ5_ensureCapacityInternal_d00df_38 rfl (k1 c1)
  · refine mW_aload_n (j := 1) dJ5_ensureCapacityInternal_d00df_17 rfl rfl ?_
    refine mW_aload_n (j := 1) dJ5_ensureCapacityInternal_d00df_18 rfl rfl ?_
    refine mW_getR dJ5_ensureCapacityInternal_d00df_19 f_J5_15 h1 rfl h2 ?_
    refine mW_aload_n (j := 1) dJ5_ensureCapacityInternal_d00df_22 rfl rfl ?_
    refine mW_iload_n (j := 2) dJ5_ensureCapacityInternal_d00df_23 rfl rfl ?_
    refine mW_callU (As := [.int x1]) (rest := [.ref a0_0, .ref a0]) (kc2 := 1) (ks2 := 142) dJ5_ensureCapacityInternal_d00df_24 l_J5_104 rfl h1 rfl (by decide) (k2 c1) (Nat.le_of_ble_eq_true rfl) (by decide) rfl rfl mRix mRik
theorem u1077 : (Cond.code ⟨"java/util/Arrays", "copyOf", "([BI)[B"⟩ prog_40_method_121_code 3 (some (.array .byte)) : Cond) ∈ mTs := mTs_in 1077 (by decide +kernel) (by decide +kernel)
theorem u97 : (Cond.initialized "java/util/Arrays" : Cond) ∈ mTs := mTs_in 97 (by decide +kernel) (by decide +kernel)
theorem co_J7_copyOf_9075b : mCode mJ7_copyOf_9075b := ⟨u1077, u97, by decide⟩
theorem u1075 : (Cond.methodLink "java/lang/AbstractStringBuilder" 108 ⟨"java/util/Arrays", "copyOf", "([BI)[B"⟩ : Cond) ∈ mTs := mTs_in 1075 (by decide +kernel) (by decide +kernel)
theorem u1076 : (Cond.static ⟨"java/util/Arrays", "copyOf", "([BI)[B"⟩ : Cond) ∈ mTs := mTs_in 1076 (by decide +kernel) (by decide +kernel)
theorem l_J5_108 : mLinkS "java/lang/AbstractStringBuilder" 108 2 mJ7_copyOf_9075b := ⟨⟨by decide, by decide, by decide +kernel⟩, co_J7_copyOf_9075b, u1075, u1076⟩
set_option maxHeartbeats 4000000 in
set_option maxRecDepth 100000 in
theorem gJ5_ensureCapacityInternal_d00df_27 {G : mG} {w : mH} {Φ : mF} {a0 : Nat} {x1 x2 x_0 : Int32} {a_1 a_2 : Nat} (h1 : hk w a0 = (12, 0)) (k1 : mC G mJ7_copyOf_9075b 2 1 142 [.ref a_1, .int (x_0 <<< ((hfi w a0 1) &&& 31))] w (mRr G mJ5_ensureCapacityInternal_d00df 4 0 0 35 [(0, .ref a0), (1, .int x1), (2, .int x2)] [.ref a_2] Φ)) : mW G mJ5_ensureCapacityInternal_d00df 4 1 142 27 [(0, .ref a0), (1, .int x1), (2, .int x2)] [.int x_0, .ref a_1, .ref a_2] w Φ := by
  refine mW_aload_n (j := 0) dJ5_ensureCapacityInternal_d00df_27 rfl rfl ?_
  refine mW_get dJ5_ensureCapacityInternal_d00df_28 f_J5_22 h1 rfl ?_
  refine mW_ishl dJ5_ensureCapacityInternal_d00df_31 ?_
  refine mW_callS (As := [.ref a_1, .int (x_0 <<< ((hfi w a0 1) &&& 31))]) (rest := [.ref a_2]) (kc2 := 0) (ks2 := 0) dJ5_ensureCapacityInternal_d00df_32 l_J5_108 rfl (k1) (Nat.le_of_ble_eq_true rfl) (by decide) rfl rfl mRrx mRrk
theorem p_J5_15 : mPut "java/lang/AbstractStringBuilder" 15 12 0 (.array .byte) false := ⟨RJ4, TJ4, 4, "java/lang/AbstractStringBuilder", tyJ4, rfl, by decide, in_J4, u297, Or.inl rfl, by decide, tyJ4_ok, nmJ4, by decide +kernel, rfl, fun h => by cases h⟩
theorem ob_12_0 (w : mH) (a : Nat) (v : Option Nat) : mOb (sfr w a 0 v) a 12 = (mOb w a 12).set 0 (va_rf v) := by simp [mOb, hfi_sfr, hfl_sfr, hfr_sfr, up2]
set_option maxHeartbeats 4000000 in
set_option maxRecDepth 100000 in
theorem gJ5_ensureCapacityInternal_d00df_35 {G : mG} {w : mH} {Φ : mF} {a0 : Nat} {x1 x2 : Int32} {a_0 a_1 : Nat} (h1 : hk w a_1 = (12, 0)) (k1 : ∀ w1 : mH, (w1 = sfr w a_1 0 (some a_0)) → Φ (.inl none) w1) : mW G mJ5_ensureCapacityInternal_d00df 4 0 0 35 [(0, .ref a0), (1, .int x1), (2, .int x2)] [.ref a_0, .ref a_1] w Φ := by
  refine mW_put (ty := .array .byte) (w2 := sfr w a_1 0 (some a_0)) dJ5_ensureCapacityInternal_d00df_35 p_J5_15 h1 (Nat.le_of_ble_eq_true rfl) (by first | rfl | decide | (repeat' split) <;> rfl) rfl (hN_sfr _ _ _ _) (hk_sfr _ _ _ _) (mE_sfr h1 (by decide) (ob_12_0 _ _ _)) ?_
  refine mW_nm (fun w1 e1 => ?_)
  exact mW_vret dJ5_ensureCapacityInternal_d00df_38 rfl (k1 w1 e1)
theorem rEns {G : mG} {s p0 k p m : Nat} {w0 w : mH} {L : List Int32} (h : dX s p0 w0 w L p m) (hk1 : k ≤ L.length + 10) (hk2 : k ≤ 142) : mC G mJ5_ensureCapacityInternal_d00df 4 1 142 [.ref s, .int (nI k)] w (mP none (fun w' => ∃ p' m', dX s p0 w0 w' L p' m' ∧ k ≤ m')) := by
  obtain ⟨hF, s0, s1, b1, b2, b3, b4, b5, b6, b7, b8, b9, b10, b11, b12, b13⟩ := id h
  refine mC_of (by decide +kernel) rfl (Nat.le_of_ble_eq_true rfl) rfl ?_
  refine gJ5_ensureCapacityInternal_d00df_0 b1 b2 b3 (fun c1 => ?_) (fun c1 => ?_)
  · rw [b5, sh_r] at c1
    refine mP_of ⟨p, m, h, ?_⟩
    rcases Nat.lt_or_ge m k with g | g
    · rw [nI_sb (by omega), m_le0 (by omega)] at c1; omega
    · exact g
  · rw [b5, sh_r] at c1
    have g : m < k := by
      rcases Nat.lt_or_ge m k with g | g
      · exact g
      · refine absurd ?_ c1
        rw [Int32.le_iff_toInt_le, i_sub (by rw [nI_toInt (by omega), nI_toInt (by omega)]; omega) (by rw [nI_toInt (by omega), nI_toInt (by omega)]; omega), nI_toInt (by omega), nI_toInt (by omega), i_0]
        omega
    refine mC_i (qCap b1 b2 b3 b5 (by omega)) ?_
    refine mW_loc [1, 2, 0] (lv2 := [(0, .ref s), (1, .int (nI k)), (2, _)]) rfl ?_
    refine gJ5_ensureCapacityInternal_d00df_27 b1 ?_
    rw [b5, sh_l]
    refine mC_mono (fun o w' ho => ?_) (qCpy (K := 2 * m + 2) b3 b11 b9 (by omega) (by omega))
    obtain ⟨rfl, rfl⟩ := ho
    refine ⟨_, rfl, ?_⟩
    have sn : s ≠ hN w := by have := hF.1; omega
    refine gJ5_ensureCapacityInternal_d00df_35 (by show va_up (hk w) (hN w) (19, 2 * m + 2) s = _; rw [va_up_ne _ _ sn]; exact b1) (fun w3 e3 => ?_)
    subst e3
    refine mP_of ⟨hN w, 2 * m + 2, ⟨⟨?_, fun q hq => ?_⟩, s0, s1, ?_, ?_, ?_, by omega, ?_, ?_, by omega, fun i hi => ?_, fun i hi => ?_, Or.inr hF.1, Nat.lt_succ_self _, sn, b13⟩, by omega⟩
    · exact Nat.le_succ_of_le hF.1
    · have qn : q ≠ hN w := by have := hF.1; omega
      obtain ⟨f1, f2, f3, f4, f5, f6⟩ := hF.2 q hq
      refine ⟨?_, fun hs => ⟨?_, ?_⟩, fun hp => ?_, ?_, ?_, ?_⟩
      · show va_up (hk w) (hN w) _ q = _; rw [va_up_ne _ _ qn]; exact f1
      · show va_up (hfi w) (hN w) _ q = _; rw [va_up_ne _ _ qn]; exact (f2 hs).1
      · rw [e_hfr_sfr, up2_a _ _ _ hs]
        show va_up (hfr w) (hN w) _ q = _; rw [va_up_ne _ _ qn]; exact (f2 hs).2
      · show va_up (va_up (hai w) (hN w) _) (hN w) _ q = _; rw [va_up_ne _ _ qn, va_up_ne _ _ qn]; exact f3 hp
      · show va_up (hfl w) (hN w) _ q = _; rw [va_up_ne _ _ qn]; exact f4
      · show va_up (hal w) (hN w) _ q = _; rw [va_up_ne _ _ qn]; exact f5
      · show va_up (har w) (hN w) _ q = _; rw [va_up_ne _ _ qn]; exact f6
    · show va_up (hk w) (hN w) _ s = _; rw [va_up_ne _ _ sn]; exact b1
    · rw [e_hfr_sfr, up2_at]
    · show va_up (hk w) (hN w) _ (hN w) = _; rw [va_up_self]
    · show va_up (hfi w) (hN w) _ s 1 = _; rw [va_up_ne _ _ sn]; exact b5
    · show va_up (hfi w) (hN w) _ s 3 = _; rw [va_up_ne _ _ sn]; exact b6
    · show va_up (va_up (hai w) (hN w) _) (hN w) _ (hN w) i = _
      rw [va_up_self]
      unfold va_cpy
      rw [if_pos (by omega), Nat.zero_add, Nat.sub_zero]
      exact b8 i hi
    · show bF (va_up (va_up (hai w) (hN w) _) (hN w) _ (hN w) i)
      rw [va_up_self]
      unfold va_cpy
      by_cases g2 : i < m
      · rw [if_pos (by omega), Nat.zero_add, Nat.sub_zero]; exact b9 i g2
      · rw [if_neg (by omega)]; exact bF_0
