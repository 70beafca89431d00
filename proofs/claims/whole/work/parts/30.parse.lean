abbrev mX8_kindOf : mM := (yX8_kindOf, cX8_kindOf, 1, (some .int), [])
set_option maxHeartbeats 4000000 in
set_option maxRecDepth 100000 in
theorem gX8_readSign_0 {G : mG} {w : mH} {Φ : mF} {a0 : Nat} {x1 : Int32} {lt : Nat → Nat} {n : Nat} (h1 : hk w a0 = (8, 0)) (h2 : zRea w a0) (s1 : rdX w a0 lt n) (k1 : ((nI (hc lt n (hfi w a0 4).toNatClampNeg)) = x1) → ∀ w1 : mH, (w1 = sfi w a0 4 ((hfi w a0 4) + 1)) → Φ (.inl (some (.int 1))) w1) (k2 : (¬ ((nI (hc lt n (hfi w a0 4).toNatClampNeg)) = x1)) → ∀ w2 : mH, (w2 = sX8_failAt w a0 (hfi w a0 4)) → Φ (.inl (some (.int 0))) w2) : mW G mX8_readSign 2 0 0 0 [(0, .ref a0), (1, .int x1)] [] w Φ := by
  refine mW_aload_n (j := 0) dX8_readSign_0 rfl rfl ?_
  refine mW_callVe (As := []) (rest := []) (kc2 := 0) (ks2 := 0) dX8_readSign_1 l_X8_54 rfl h1 rfl (by decide) (qX8_sign' (w := w) (a0 := a0) h2 s1) (Nat.le_of_ble_eq_true rfl) (by decide) rfl rfl ?_
  refine mW_iload_n (j := 1) dX8_readSign_4 rfl rfl ?_
  refine mW_icmp_eq (tgt := 17) dX8_readSign_5 (by decide) (fun c1 => ?_) (fun c1 => ?_)
  · refine mW_aload_n (j := 0) dX8_readSign_17 rfl rfl ?_
    refine mW_dup dX8_readSign_18 rfl ?_
    refine mW_get dX8_readSign_19 f_X8_29 h1 rfl ?_
    refine mW_iconst (v := 1) dX8_readSign_22 (by decide) ?_
    refine mW_iadd dX8_readSign_23 ?_
    refine mW_put (ty := .int) (w2 := sfi w a0 4 ((hfi w a0 4) + 1)) dX8_readSign_24 p_X8_29 h1 (Nat.le_of_ble_eq_true rfl) (by first | rfl | decide | (repeat' split) <;> rfl) rfl (hN_sfi _ _ _ _) (hk_sfi _ _ _ _) (mE_sfi h1 (by decide) (ob_8_4 _ _ _)) ?_
    refine mW_nm (fun w1 e1 => ?_)
    refine mW_iconst (v := 1) dX8_readSign_27 (by decide) ?_
    exact mW_zret (ty := .boolean) dX8_readSign_28 rfl (by first | rfl | decide) (k1 c1 w1 e1)
  · refine mW_aload_n (j := 0) dX8_readSign_8 rfl rfl ?_
    refine mW_aload_n (j := 0) dX8_readSign_9 rfl rfl ?_
    refine mW_get dX8_readSign_10 f_X8_29 h1 rfl ?_
    refine mW_callVe (As := [.int (hfi w a0 4)]) (rest := []) (kc2 := 0) (ks2 := 0) dX8_readSign_13 l_X8_50 rfl h1 rfl (by decide) (qX8_failAt (w := w) (a0 := a0) (x1 := hfi w a0 4) h1) (Nat.le_of_ble_eq_true rfl) (by decide) rfl rfl ?_
    refine mW_nm (fun w2 e2 => ?_)
    exact mW_zret (ty := .boolean) dX8_readSign_16 rfl (by first | rfl | decide) (k2 c1 w2 e2)
/-! class TrackReader: the parts of a text -/
def isL {α β : Type} (r : α ⊕ β) : Int32 := match r with | .inl _ => 1 | .inr _ => 0
theorem isL_0 {α β : Type} {r : α ⊕ β} (h : isL r = 0) : ∃ q, r = .inr q := by
  cases r with
  | inl x => exact absurd h (by show ¬ (1 : Int32) = 0; decide)
  | inr q => exact ⟨q, rfl⟩
theorem isL_1 {α β : Type} {r : α ⊕ β} (h : ¬ isL r = 0) : ∃ x, r = .inl x := by
  cases r with
  | inl x => exact ⟨x, rfl⟩
  | inr q => exact absurd rfl h
abbrev nT (x : Int32) : Nat := x.toNatClampNeg
abbrev rdP (w : mH) (a : Nat) : Nat := (hfi w a 4).toNatClampNeg
def pNum (f lo hi : Int32) (lt : Nat → Nat) (n p : Nat) : (Nat × Int32) ⊕ Nat := if nOK f lo hi (num lt n p) = 0 then .inr p else .inl (p + (num lt n p).1, f * nI (num lt n p).2)
def pSg (x : Int32) (lt : Nat → Nat) (n p : Nat) : (Nat × Int32) ⊕ Nat := if hc lt n p = 45 then pNum (-1) (-x) x lt n (p + 1) else pNum 1 (-x) x lt n p
def pCh (c : Nat) (lt : Nat → Nat) (n p : Nat) : Nat ⊕ Nat := if hc lt n p = c then .inl (p + 1) else .inr p
/-- a number was read, or the error stands -/
def rdO (w w' : mH) (a : Nat) (r : (Nat × Int32) ⊕ Nat) : Prop := hfi w' a 1 = hfi w a 1 ∧ (∀ x, r = .inl x → hfi w' a 2 = hfi w a 2 ∧ hfi w' a 4 = nI x.1 ∧ hfi w' a 5 = x.2) ∧ ∀ q, r = .inr q → hfi w' a 2 = nI q
def rdC (w w' : mH) (a : Nat) (r : Nat ⊕ Nat) : Prop := hfi w' a 1 = hfi w a 1 ∧ (∀ x, r = .inl x → hfi w' a 2 = hfi w a 2 ∧ hfi w' a 4 = nI x ∧ hfi w' a 5 = hfi w a 5) ∧ ∀ q, r = .inr q → hfi w' a 2 = nI q
theorem nOK_01 (f lo hi : Int32) (cv : Nat × Nat) : nOK f lo hi cv = 0 ∨ nOK f lo hi cv = 1 := by
  unfold nOK
  split
  · split
    · exact Or.inl rfl
    · exact Or.inr rfl
  · exact Or.inl rfl
theorem rX8_readNumber' {G : mG} {w : mH} {a0 n : Nat} {x1 x2 x3 : Int32} {lt : Nat → Nat} (z0 : zRea w a0) (h : rdX w a0 lt n) (h9 : rdP w a0 ≤ 900) : mC G mX8_readNumber 2 0 0 [.ref a0, .int x1, .int x2, .int x3] w (mP (some (.int (isL (pNum x1 x2 x3 lt n (rdP w a0))))) (fun w' => mFr a0 (a0 + 1) w w' ∧ rdO w w' a0 (pNum x1 x2 x3 lt n (rdP w a0)))) := by
  refine mC_mono (fun o w' h => ?_) (rX8_readNumber z0 h h.2.2.2.1 h9)
  obtain ⟨rfl, f, g1, g2, g4, g5⟩ := h
  rcases nOK_01 x1 x2 x3 (num lt n (rdP w a0)) with e | e
  · have e1 : pNum x1 x2 x3 lt n (rdP w a0) = .inr (rdP w a0) := by unfold pNum; rw [if_pos e]
    rw [e1, e]
    refine mP_of ⟨f, g1, fun x hx => (by cases hx), fun q hq => ?_⟩
    cases hq
    rw [g2, if_pos e]
  · have e1 : pNum x1 x2 x3 lt n (rdP w a0) = .inl (rdP w a0 + (num lt n (rdP w a0)).1, x1 * nI (num lt n (rdP w a0)).2) := by unfold pNum; rw [if_neg (by rw [e]; decide)]
    rw [e1, e]
    refine mP_of ⟨f, g1, fun x hx => ?_, fun q hq => (by cases hq)⟩
    cases hx
    exact ⟨by rw [g2, if_neg (by rw [e]; decide)], g4, g5⟩
theorem rX8_readSign {G : mG} {w : mH} {a0 n c : Nat} {x1 : Int32} {lt : Nat → Nat} (z0 : zRea w a0) (h : rdX w a0 lt n) (hc1 : x1 = nI c) (hc2 : c ≤ 126) : mC G mX8_readSign 2 0 0 [.ref a0, .int x1] w (mP (some (.int (isL (pCh c lt n (rdP w a0))))) (fun w' => mFr a0 (a0 + 1) w w' ∧ rdC w w' a0 (pCh c lt n (rdP w a0)))) := by
  have hle : hc lt n (hfi w a0 4).toNatClampNeg ≤ 126 := hc_le h
  refine mC_of (by decide +kernel) rfl (Nat.le_of_ble_eq_true rfl) rfl ?_
  have hp := h.2.2.2.1
  refine gX8_readSign_0 (lt := lt) (n := n) z0.1 z0 h ?_ ?_
  · intro c1 w1 e1
    rw [hc1, nI_eq (by omega) (by omega)] at c1
    have e2 : pCh c lt n (rdP w a0) = .inl (rdP w a0 + 1) := by unfold pCh; rw [if_pos c1]
    rw [e2]
    rw [hp, nI_1] at e1
    refine mP_of ⟨by rw [e1]; exact mFr_sfi mFr.rf (by omega) (by omega), by rw [e1, e_hfi_sfi, up2_k _ _ _ (by decide)], fun x hx => ?_, fun q hq => (by cases hq)⟩
    cases hx
    exact ⟨by rw [e1, e_hfi_sfi, up2_k _ _ _ (by decide)], by rw [e1, e_hfi_sfi, up2_at], by rw [e1, e_hfi_sfi, up2_k _ _ _ (by decide)]⟩
  · intro c1 w1 e1
    rw [hc1, nI_eq (by omega) (by omega)] at c1
    have e2 : pCh c lt n (rdP w a0) = .inr (rdP w a0) := by unfold pCh; rw [if_neg c1]
    rw [e2]
    have e1' : w1 = sfi w a0 2 (hfi w a0 4) := e1
    refine mP_of ⟨by rw [e1']; exact mFr_sfi mFr.rf (by omega) (by omega), by rw [e1', e_hfi_sfi, up2_k _ _ _ (by decide)], fun x hx => (by cases hx), fun q hq => ?_⟩
    cases hq
    rw [e1', e_hfi_sfi, up2_at]; exact hp

abbrev mX8_readSigned : mM := (yX8_readSigned, cX8_readSigned, 2, (some .boolean), [])
theorem u999 : (Cond.code ⟨"LineFollowerBench$TrackReader", "readNumber", "(III)Z"⟩ prog_10_method_11_code 7 (some .boolean) : Cond) ∈ mTs := mTs_in 999 (by decide +kernel) (by decide +kernel)
theorem co_X8_readNumber : mCode mX8_readNumber := ⟨u999, u76, by decide⟩
theorem u996 : (Cond.methodLink "LineFollowerBench$TrackReader" 71 ⟨"LineFollowerBench$TrackReader", "readNumber", "(III)Z"⟩ : Cond) ∈ mTs := mTs_in 996 (by decide +kernel) (by decide +kernel)
theorem u998 : (Cond.instanceMethod ⟨"LineFollowerBench$TrackReader", "readNumber", "(III)Z"⟩ : Cond) ∈ mTs := mTs_in 998 (by decide +kernel) (by decide +kernel)
theorem u30 : (Cond.selects "LineFollowerBench$TrackReader" ⟨"LineFollowerBench$TrackReader", "readNumber", "(III)Z"⟩ ⟨"LineFollowerBench$TrackReader", "readNumber", "(III)Z"⟩ : Cond) ∈ mTs := mTs_in 30 (by decide +kernel) (by decide +kernel)
theorem l_X8_71 : mLinkV "LineFollowerBench$TrackReader" 71 3 mX8_readNumber := ⟨⟨by decide, by decide, by decide +kernel⟩, co_X8_readNumber, u996, u998, u30⟩
set_option maxHeartbeats 4000000 in
set_option maxRecDepth 100000 in
theorem gX8_readSigned_0 {G : mG} {w : mH} {Φ : mF} {a0 : Nat} {x1 : Int32} {lt : Nat → Nat} {n : Nat} (h1 : hk w a0 = (8, 0)) (h2 : zRea w a0) (s1 : rdX w a0 lt n) (s2 : (¬ ((nI (hc lt n (hfi w a0 4).toNatClampNeg)) = 45)) → rdP w a0 ≤ 900) (s3 : (¬ ((nI (hc lt n (hfi w a0 4).toNatClampNeg)) = 45)) → ∀ w1 : mH, (mFr a0 (a0 + 1) w w1 ∧ rdO w w1 a0 (pNum 1 (-x1) x1 lt n (rdP w a0))) → narrow .boolean (.int (isL (pNum 1 (-x1) x1 lt n (rdP w a0)))) = .int (isL (pNum 1 (-x1) x1 lt n (rdP w a0)))) (s4 : ((nI (hc lt n (hfi w a0 4).toNatClampNeg)) = 45) → ∀ w2 : mH, (w2 = sfi w a0 4 ((hfi w a0 4) + 1)) → rdX w2 a0 lt n) (s5 : ((nI (hc lt n (hfi w a0 4).toNatClampNeg)) = 45) → ∀ w2 : mH, (w2 = sfi w a0 4 ((hfi w a0 4) + 1)) → rdP w2 a0 ≤ 900) (s6 : ((nI (hc lt n (hfi w a0 4).toNatClampNeg)) = 45) → ∀ w2 : mH, (w2 = sfi w a0 4 ((hfi w a0 4) + 1)) → ∀ w3 : mH, (mFr a0 (a0 + 1) w2 w3 ∧ rdO w2 w3 a0 (pNum (-1) (-x1) x1 lt n (rdP w2 a0))) → narrow .boolean (.int (isL (pNum (-1) (-x1) x1 lt n (rdP w2 a0)))) = .int (isL (pNum (-1) (-x1) x1 lt n (rdP w2 a0)))) (k1 : (¬ ((nI (hc lt n (hfi w a0 4).toNatClampNeg)) = 45)) → ∀ w1 : mH, (mFr a0 (a0 + 1) w w1 ∧ rdO w w1 a0 (pNum 1 (-x1) x1 lt n (rdP w a0))) → Φ (.inl (some (.int (isL (pNum 1 (-x1) x1 lt n (rdP w a0)))))) w1) (k2 : ((nI (hc lt n (hfi w a0 4).toNatClampNeg)) = 45) → ∀ w2 : mH, (w2 = sfi w a0 4 ((hfi w a0 4) + 1)) → ∀ w3 : mH, (mFr a0 (a0 + 1) w2 w3 ∧ rdO w2 w3 a0 (pNum (-1) (-x1) x1 lt n (rdP w2 a0))) → Φ (.inl (some (.int (isL (pNum (-1) (-x1) x1 lt n (rdP w2 a0)))))) w3) : mW G mX8_readSigned 3 0 0 0 [(0, .ref a0), (1, .int x1)] [] w Φ := by
  refine mW_aload_n (j := 0) dX8_readSigned_0 rfl rfl ?_
  refine mW_callVe (As := []) (rest := []) (kc2 := 0) (ks2 := 0) dX8_readSigned_1 l_X8_54 rfl h1 rfl (by decide) (qX8_sign' (w := w) (a0 := a0) h2 s1) (Nat.le_of_ble_eq_true rfl) (by decide) rfl rfl ?_
  refine mW_bipush (v := 45) dX8_readSigned_4 (by decide) ?_
  refine mW_icmp_ne (tgt := 28) dX8_readSigned_6 (by decide) (fun c1 => ?_) (fun c1 => ?_)
  · refine mW_aload_n (j := 0) dX8_readSigned_28 rfl rfl ?_
    refine mW_iconst (v := 1) dX8_readSigned_29 (by decide) ?_
    refine mW_iload_n (j := 1) dX8_readSigned_30 rfl rfl ?_
    refine mW_ineg dX8_readSigned_31 ?_
    refine mW_iload_n (j := 1) dX8_readSigned_32 rfl rfl ?_
    refine mW_callV (As := [.int 1, .int (-x1), .int x1]) (rest := []) (kc2 := 0) (ks2 := 0) dX8_readSigned_33 l_X8_71 rfl h1 rfl (by decide) (rX8_readNumber' (w := w) (a0 := a0) (x1 := 1) (x2 := -x1) (x3 := x1) h2 s1 (s2 c1)) (Nat.le_of_ble_eq_true rfl) (by decide) rfl rfl mP_x (mP_k (fun w1 q1 => ?_))
    exact mW_zret (ty := .boolean) dX8_readSigned_36 rfl ((s3 c1 w1 q1)) (k1 c1 w1 q1)
  · refine mW_aload_n (j := 0) dX8_readSigned_9 rfl rfl ?_
    refine mW_dup dX8_readSigned_10 rfl ?_
    refine mW_get dX8_readSigned_11 f_X8_29 h1 rfl ?_
    refine mW_iconst (v := 1) dX8_readSigned_14 (by decide) ?_
    refine mW_iadd dX8_readSigned_15 ?_
    refine mW_put (ty := .int) (w2 := sfi w a0 4 ((hfi w a0 4) + 1)) dX8_readSigned_16 p_X8_29 h1 (Nat.le_of_ble_eq_true rfl) (by first | rfl | decide | (repeat' split) <;> rfl) rfl (hN_sfi _ _ _ _) (hk_sfi _ _ _ _) (mE_sfi h1 (by decide) (ob_8_4 _ _ _)) ?_
    refine mW_nm (fun w2 e1 => ?_)
    refine mW_aload_n (j := 0) dX8_readSigned_19 rfl rfl ?_
    refine mW_iconst (v := (-1)) dX8_readSigned_20 (by decide) ?_
    refine mW_iload_n (j := 1) dX8_readSigned_21 rfl rfl ?_
    refine mW_ineg dX8_readSigned_22 ?_
    refine mW_iload_n (j := 1) dX8_readSigned_23 rfl rfl ?_
    refine mW_callV (As := [.int (-1), .int (-x1), .int x1]) (rest := []) (kc2 := 0) (ks2 := 0) dX8_readSigned_24 l_X8_71 rfl (s2k (S2_sfi e1) h1) rfl (by decide) (rX8_readNumber' (w := w2) (a0 := a0) (x1 := (-1)) (x2 := -x1) (x3 := x1) (zRea_s2 (S2_sfi e1) h2) (s4 c1 w2 e1) (s5 c1 w2 e1)) (Nat.le_of_ble_eq_true rfl) (by decide) rfl rfl mP_x (mP_k (fun w3 q2 => ?_))
    exact mW_zret (ty := .boolean) dX8_readSigned_27 rfl ((s6 c1 w2 e1 w3 q2)) (k2 c1 w2 e1 w3 q2)
theorem nar_L {α β : Type} (r : α ⊕ β) : narrow .boolean (.int (isL r)) = .int (isL r) := by
  cases r
  · show narrow .boolean (.int 1) = .int 1; decide
  · show narrow .boolean (.int 0) = .int 0; decide
theorem rdX_mv {w w' : mH} {a n p : Nat} {lt : Nat → Nat} (h : rdX w a lt n) (e : hai w' (a + 1) = hai w (a + 1)) (h1 : hfi w' a 1 = hfi w a 1) (h4 : hfi w' a 4 = nI p) (hp : p ≤ 1000) : rdX w' a lt n := rdX_at (by rw [h1]; exact h.1) h.2.1 (by rw [e]; exact h.2.2.1) h4 hp
theorem pNum_le {f lo hi : Int32} {lt : Nat → Nat} {n p : Nat} {x : Nat × Int32} (h : pNum f lo hi lt n p = .inl x) (hp : p ≤ n) : x.1 ≤ n := by
  unfold pNum at h
  split at h
  · cases h
  · cases h; exact num_pos hp
theorem pCh_le {c : Nat} {lt : Nat → Nat} {n p x : Nat} (h : pCh c lt n p = .inl x) (h0 : c ≠ 0) : x ≤ n := by
  unfold pCh at h
  split at h
  · rename_i e; cases h; exact hc_lt (by rw [e]; exact h0)
  · cases h
theorem pSg_le {x1 : Int32} {lt : Nat → Nat} {n p : Nat} {x : Nat × Int32} (h : pSg x1 lt n p = .inl x) (hp : p ≤ n) : x.1 ≤ n := by
  unfold pSg at h
  split at h
  · rename_i e; exact pNum_le h (hc_lt (by rw [e]; decide))
  · exact pNum_le h hp
theorem rX8_readSigned {G : mG} {w : mH} {a0 n : Nat} {x1 : Int32} {lt : Nat → Nat} (z0 : zRea w a0) (h : rdX w a0 lt n) (hp : rdP w a0 ≤ n) : mC G mX8_readSigned 3 0 0 [.ref a0, .int x1] w (mP (some (.int (isL (pSg x1 lt n (rdP w a0))))) (fun w' => mFr a0 (a0 + 1) w w' ∧ rdO w w' a0 (pSg x1 lt n (rdP w a0)))) := by
  have hn := h.2.1
  have hle := hc_le (p := rdP w a0) h
  have e45 : nI (hc lt n (rdP w a0)) = 45 ↔ hc lt n (rdP w a0) = 45 := nI_eq (b := 45) (by omega) (by omega)
  have W : ∀ w2 : mH, w2 = sfi w a0 4 ((hfi w a0 4) + 1) → nI (hc lt n (rdP w a0)) = 45 → rdX w2 a0 lt n ∧ rdP w2 a0 = rdP w a0 + 1 ∧ rdP w a0 + 1 ≤ n := fun w2 e1 c1 => by
    have e4 : hfi w2 a0 4 = nI (rdP w a0 + 1) := by rw [e1, e_hfi_sfi, up2_at, h.2.2.2.1, nI_1]
    refine ⟨rdX_mv h (by rw [e1]; rfl) (by rw [e1, e_hfi_sfi, up2_k _ _ _ (by decide)]) e4 (by omega), by unfold rdP at *; rw [e4]; exact m_cl (by omega), ?_⟩
    exact hc_lt (by rw [e45.mp c1]; decide)
  refine mC_of (by decide +kernel) rfl (Nat.le_of_ble_eq_true rfl) rfl ?_
  refine gX8_readSigned_0 (lt := lt) (n := n) z0.1 z0 h (fun _ => by omega) (fun _ _ _ => nar_L _) (fun c1 w2 e1 => (W w2 e1 c1).1) (fun c1 w2 e1 => by have := (W w2 e1 c1).2; omega) (fun _ _ _ _ _ => nar_L _) ?_ ?_
  · intro c1 w1 q1
    have e : pSg x1 lt n (rdP w a0) = pNum 1 (-x1) x1 lt n (rdP w a0) := by unfold pSg; rw [if_neg (fun q => c1 (e45.mpr q))]
    rw [e]
    exact mP_of q1
  · intro c1 w2 e1 w3 q2
    obtain ⟨-, e2, -⟩ := W w2 e1 c1
    have e : pSg x1 lt n (rdP w a0) = pNum (-1) (-x1) x1 lt n (rdP w2 a0) := by unfold pSg; rw [if_pos (e45.mp c1), e2]
    rw [e]
    have F : mFr a0 (a0 + 1) w w2 := by rw [e1]; exact mFr_sfi mFr.rf (by omega) (by omega)
    refine mP_of ⟨F.tr q2.1, ?_, fun x hx => ?_, q2.2.2.2⟩
    · rw [q2.2.1, e1, e_hfi_sfi, up2_k _ _ _ (by decide)]
    · obtain ⟨g1, g2, g3⟩ := q2.2.2.1 x hx
      exact ⟨by rw [g1, e1, e_hfi_sfi, up2_k _ _ _ (by decide)], g2, g3⟩
def addSeg (B : Nat → Int32) (k l c : Int32) : Nat → Int32 := fun j => if j = 41 + 3 * nSg B then k else if j = 41 + 3 * nSg B + 1 then l else if j = 41 + 3 * nSg B + 2 then c else if j = 40 then nI (nSg B + 1) else B j
def addPus (B : Nat → Int32) (f v l : Int32) : Nat → Int32 := fun j => if j = 66 + 3 * nPs B then f else if j = 66 + 3 * nPs B + 1 then v else if j = 66 + 3 * nPs B + 2 then l else if j = 65 then nI (nPs B + 1) else B j
theorem rX7_addSegment {G : mG} {w : mH} {a0 : Nat} {x1 x2 x3 : Int32} {B : Nat → Int32} (z0 : zTrk w a0) (h : kRep w a0 B) (hr : nSg B < 8) : mC G mX7_addSegment 1 0 0 [.ref a0, .int x1, .int x2, .int x3] w (mP none (fun w' => mFr a0 (a0 + 7) w w' ∧ kRep w' a0 (addSeg B x1 x2 x3))) := by
  obtain ⟨n, m, g1, g2, g3, g4, g5, g6, g7, g8⟩ := h
  have en : nSg B = n := by unfold nSg; rw [g3]; exact m_cl (by omega)
  have em : nPs B = m := by unfold nPs; rw [g5]; exact m_cl (by omega)
  rw [en] at hr
  have v8 : vp_in (hfi w a0 3) 8 := by rw [g4]; exact m_vp hr (by omega)
  have c8 : (hfi w a0 3).toNatClampNeg = n := by rw [g4]; exact m_cl (by omega)
  refine mC_mono (fun o w' h => ?_) (qX7_addSegment z0.1 z0.2.1 z0.2.2.2.2.2.2.2.1 (fun _ => v8) z0.2.2.1 z0.2.2.2.2.2.2.2.2.1 (fun _ => v8) z0.2.2.2.1 z0.2.2.2.2.2.2.2.2.2.1 (fun _ => v8))
  obtain ⟨rfl, e⟩ := h
  have h8 : ¬ (8 : Int32) ≤ hfi w a0 3 := by rw [g4, m_8 (by omega)]; omega
  unfold sX7_addSegment at e
  rw [if_neg h8] at e
  simp only [e_hfi_sai, c8] at e
  rw [e]
  refine mP_of ⟨mFr_sfi (mFr_sai (mFr_sai (mFr_sai mFr.rf (by omega) (by omega)) (by omega) (by omega)) (by omega) (by omega)) (by omega) (by omega), n + 1, m, by omega, g2, ?_, ?_, ?_, ?_, fun i hi => ?_, fun i hi => ?_⟩
  · unfold addSeg; rw [en, if_neg (by omega), if_neg (by omega), if_neg (by omega), if_pos rfl]
  · rw [e_hfi_sfi, up2_at, g4, nI_1]
  · unfold addSeg; rw [en, if_neg (by omega), if_neg (by omega), if_neg (by omega), if_neg (by omega)]; exact g5
  · rw [e_hfi_sfi, up2_k _ _ _ (by decide)]; exact g6
  · have a1 : a0 + 1 ≠ a0 + 2 := by omega
    have a2 : a0 + 1 ≠ a0 + 3 := by omega
    have a3 : a0 + 2 ≠ a0 + 1 := by omega
    have a4 : a0 + 2 ≠ a0 + 3 := by omega
    have a5 : a0 + 3 ≠ a0 + 1 := by omega
    have a6 : a0 + 3 ≠ a0 + 2 := by omega
    simp only [e_hai_sfi, e_hai_sai, up2_a _ _ _ a1, up2_a _ _ _ a2, up2_a _ _ _ a3, up2_a _ _ _ a4, up2_a _ _ _ a5, up2_a _ _ _ a6]
    unfold addSeg
    rw [en]
    by_cases hin : i = n
    · subst hin
      rw [up2_at, up2_at, up2_at, if_pos rfl, if_neg (by omega), if_pos rfl, if_neg (by omega), if_neg (by omega), if_pos rfl]
      exact ⟨rfl, rfl, rfl⟩
    · simp only [up2_k _ _ _ hin, up2_a _ _ _ a1, up2_a _ _ _ a2, up2_a _ _ _ a3, up2_a _ _ _ a4, up2_a _ _ _ a5, up2_a _ _ _ a6]
      rw [if_neg (by omega), if_neg (by omega), if_neg (by omega), if_neg (by omega), if_neg (by omega), if_neg (by omega), if_neg (by omega), if_neg (by omega), if_neg (by omega), if_neg (by omega), if_neg (by omega), if_neg (by omega)]
      exact g7 i (by omega)
  · have a1 : a0 + 4 ≠ a0 + 1 := by omega
    have a2 : a0 + 4 ≠ a0 + 2 := by omega
    have a3 : a0 + 4 ≠ a0 + 3 := by omega
    have b1 : a0 + 5 ≠ a0 + 1 := by omega
    have b2 : a0 + 5 ≠ a0 + 2 := by omega
    have b3 : a0 + 5 ≠ a0 + 3 := by omega
    have d1 : a0 + 6 ≠ a0 + 1 := by omega
    have d2 : a0 + 6 ≠ a0 + 2 := by omega
    have d3 : a0 + 6 ≠ a0 + 3 := by omega
    simp only [e_hai_sfi, e_hai_sai, up2_a _ _ _ a1, up2_a _ _ _ a2, up2_a _ _ _ a3, up2_a _ _ _ b1, up2_a _ _ _ b2, up2_a _ _ _ b3, up2_a _ _ _ d1, up2_a _ _ _ d2, up2_a _ _ _ d3]
    unfold addSeg
    rw [en, if_neg (by omega), if_neg (by omega), if_neg (by omega), if_neg (by omega), if_neg (by omega), if_neg (by omega), if_neg (by omega), if_neg (by omega), if_neg (by omega), if_neg (by omega), if_neg (by omega), if_neg (by omega)]
    exact g8 i hi
theorem rX7_addDisturbance {G : mG} {w : mH} {a0 : Nat} {x1 x2 x3 : Int32} {B : Nat → Int32} (z0 : zTrk w a0) (h : kRep w a0 B) (hr : nPs B < 4) : mC G mX7_addDisturbance 1 0 0 [.ref a0, .int x1, .int x2, .int x3] w (mP none (fun w' => mFr a0 (a0 + 7) w w' ∧ kRep w' a0 (addPus B x1 x2 x3))) := by
  obtain ⟨n, m, g1, g2, g3, g4, g5, g6, g7, g8⟩ := h
  have en : nSg B = n := by unfold nSg; rw [g3]; exact m_cl (by omega)
  have em : nPs B = m := by unfold nPs; rw [g5]; exact m_cl (by omega)
  rw [em] at hr
  have v8 : vp_in (hfi w a0 7) 4 := by rw [g6]; exact m_vp hr (by omega)
  have c8 : (hfi w a0 7).toNatClampNeg = m := by rw [g6]; exact m_cl (by omega)
  refine mC_mono (fun o w' h => ?_) (qX7_addDisturbance z0.1 z0.2.2.2.2.1 z0.2.2.2.2.2.2.2.2.2.2.1 (fun _ => v8) z0.2.2.2.2.2.1 z0.2.2.2.2.2.2.2.2.2.2.2.1 (fun _ => v8) z0.2.2.2.2.2.2.1 z0.2.2.2.2.2.2.2.2.2.2.2.2 (fun _ => v8))
  obtain ⟨rfl, e⟩ := h
  have h8 : ¬ (4 : Int32) ≤ hfi w a0 7 := by rw [g6, m_4 (by omega)]; omega
  unfold sX7_addDisturbance at e
  rw [if_neg h8] at e
  simp only [e_hfi_sai, c8] at e
  rw [e]
  refine mP_of ⟨mFr_sfi (mFr_sai (mFr_sai (mFr_sai mFr.rf (by omega) (by omega)) (by omega) (by omega)) (by omega) (by omega)) (by omega) (by omega), n, m + 1, g1, by omega, ?_, ?_, ?_, ?_, fun i hi => ?_, fun i hi => ?_⟩
  · unfold addPus; rw [em, if_neg (by omega), if_neg (by omega), if_neg (by omega), if_neg (by omega)]; exact g3
  · rw [e_hfi_sfi, up2_k _ _ _ (by decide)]; exact g4
  · unfold addPus; rw [em, if_neg (by omega), if_neg (by omega), if_neg (by omega), if_pos rfl]
  · rw [e_hfi_sfi, up2_at, g6, nI_1]
  · have a1 : a0 + 1 ≠ a0 + 4 := by omega
    have a2 : a0 + 1 ≠ a0 + 5 := by omega
    have a3 : a0 + 1 ≠ a0 + 6 := by omega
    have b1 : a0 + 2 ≠ a0 + 4 := by omega
    have b2 : a0 + 2 ≠ a0 + 5 := by omega
    have b3 : a0 + 2 ≠ a0 + 6 := by omega
    have d1 : a0 + 3 ≠ a0 + 4 := by omega
    have d2 : a0 + 3 ≠ a0 + 5 := by omega
    have d3 : a0 + 3 ≠ a0 + 6 := by omega
    simp only [e_hai_sfi, e_hai_sai, up2_a _ _ _ a1, up2_a _ _ _ a2, up2_a _ _ _ a3, up2_a _ _ _ b1, up2_a _ _ _ b2, up2_a _ _ _ b3, up2_a _ _ _ d1, up2_a _ _ _ d2, up2_a _ _ _ d3]
    unfold addPus
    rw [em, if_neg (by omega), if_neg (by omega), if_neg (by omega), if_neg (by omega), if_neg (by omega), if_neg (by omega), if_neg (by omega), if_neg (by omega), if_neg (by omega), if_neg (by omega), if_neg (by omega), if_neg (by omega)]
    exact g7 i hi
  · have a1 : a0 + 4 ≠ a0 + 5 := by omega
    have a2 : a0 + 4 ≠ a0 + 6 := by omega
    have a3 : a0 + 5 ≠ a0 + 4 := by omega
    have a4 : a0 + 5 ≠ a0 + 6 := by omega
    have a5 : a0 + 6 ≠ a0 + 4 := by omega
    have a6 : a0 + 6 ≠ a0 + 5 := by omega
    simp only [e_hai_sfi, e_hai_sai, up2_a _ _ _ a1, up2_a _ _ _ a2, up2_a _ _ _ a3, up2_a _ _ _ a4, up2_a _ _ _ a5, up2_a _ _ _ a6]
    unfold addPus
    rw [em]
    by_cases hin : i = m
    · subst hin
      rw [up2_at, up2_at, up2_at, if_pos rfl, if_neg (by omega), if_pos rfl, if_neg (by omega), if_neg (by omega), if_pos rfl]
      exact ⟨rfl, rfl, rfl⟩
    · simp only [up2_k _ _ _ hin, up2_a _ _ _ a1, up2_a _ _ _ a2, up2_a _ _ _ a3, up2_a _ _ _ a4, up2_a _ _ _ a5, up2_a _ _ _ a6]
      rw [if_neg (by omega), if_neg (by omega), if_neg (by omega), if_neg (by omega), if_neg (by omega), if_neg (by omega), if_neg (by omega), if_neg (by omega), if_neg (by omega), if_neg (by omega), if_neg (by omega), if_neg (by omega)]
      exact g8 i (by omega)

abbrev mX8_readSegment : mM := (yX8_readSegment, cX8_readSegment, 4, (some .boolean), [])
theorem u261 : (Cond.fieldLink "LineFollowerBench$TrackReader" 25 "LineFollowerBench$TrackReader" "track" "LLineFollowerBench$Track;" : Cond) ∈ mTs := mTs_in 261 (by decide +kernel) (by decide +kernel)
theorem f_X8_25 : mFld "LineFollowerBench$TrackReader" 25 8 3 := ⟨RX8, TX8, 6, "LineFollowerBench$TrackReader", rfl, by decide, in_X8, u261, Or.inl rfl, by decide⟩
theorem u1022 : (Cond.code ⟨"LineFollowerBench$Track", "addSegment", "(III)V"⟩ prog_9_method_4_code 4 (none : Option ClassFile.FieldType) : Cond) ∈ mTs := mTs_in 1022 (by decide +kernel) (by decide +kernel)
theorem co_X7_addSegment : mCode mX7_addSegment := ⟨u1022, u74, by decide⟩
theorem u1019 : (Cond.methodLink "LineFollowerBench$TrackReader" 77 ⟨"LineFollowerBench$Track", "addSegment", "(III)V"⟩ : Cond) ∈ mTs := mTs_in 1019 (by decide +kernel) (by decide +kernel)
theorem u1020 : (Cond.instanceMethod ⟨"LineFollowerBench$Track", "addSegment", "(III)V"⟩ : Cond) ∈ mTs := mTs_in 1020 (by decide +kernel) (by decide +kernel)
theorem u1021 : (Cond.selects "LineFollowerBench$Track" ⟨"LineFollowerBench$Track", "addSegment", "(III)V"⟩ ⟨"LineFollowerBench$Track", "addSegment", "(III)V"⟩ : Cond) ∈ mTs := mTs_in 1021 (by decide +kernel) (by decide +kernel)
theorem l_X8_77 : mLinkV "LineFollowerBench$TrackReader" 77 3 mX7_addSegment := ⟨⟨by decide, by decide, by decide +kernel⟩, co_X7_addSegment, u1019, u1020, u1021⟩
theorem u1006 : (Cond.code ⟨"LineFollowerBench$TrackReader", "readSign", "(C)Z"⟩ prog_10_method_12_code 2 (some .boolean) : Cond) ∈ mTs := mTs_in 1006 (by decide +kernel) (by decide +kernel)
theorem co_X8_readSign : mCode mX8_readSign := ⟨u1006, u76, by decide⟩
theorem u1003 : (Cond.methodLink "LineFollowerBench$TrackReader" 46 ⟨"LineFollowerBench$TrackReader", "readSign", "(C)Z"⟩ : Cond) ∈ mTs := mTs_in 1003 (by decide +kernel) (by decide +kernel)
theorem u1005 : (Cond.instanceMethod ⟨"LineFollowerBench$TrackReader", "readSign", "(C)Z"⟩ : Cond) ∈ mTs := mTs_in 1005 (by decide +kernel) (by decide +kernel)
theorem u31 : (Cond.selects "LineFollowerBench$TrackReader" ⟨"LineFollowerBench$TrackReader", "readSign", "(C)Z"⟩ ⟨"LineFollowerBench$TrackReader", "readSign", "(C)Z"⟩ : Cond) ∈ mTs := mTs_in 31 (by decide +kernel) (by decide +kernel)
theorem l_X8_46 : mLinkV "LineFollowerBench$TrackReader" 46 1 mX8_readSign := ⟨⟨by decide, by decide, by decide +kernel⟩, co_X8_readSign, u1003, u1005, u31⟩
theorem u1010 : (Cond.code ⟨"LineFollowerBench$TrackReader", "readSigned", "(I)Z"⟩ prog_10_method_10_code 2 (some .boolean) : Cond) ∈ mTs := mTs_in 1010 (by decide +kernel) (by decide +kernel)
theorem co_X8_readSigned : mCode mX8_readSigned := ⟨u1010, u76, by decide⟩
theorem u1007 : (Cond.methodLink "LineFollowerBench$TrackReader" 74 ⟨"LineFollowerBench$TrackReader", "readSigned", "(I)Z"⟩ : Cond) ∈ mTs := mTs_in 1007 (by decide +kernel) (by decide +kernel)
theorem u1009 : (Cond.instanceMethod ⟨"LineFollowerBench$TrackReader", "readSigned", "(I)Z"⟩ : Cond) ∈ mTs := mTs_in 1009 (by decide +kernel) (by decide +kernel)
theorem u32 : (Cond.selects "LineFollowerBench$TrackReader" ⟨"LineFollowerBench$TrackReader", "readSigned", "(I)Z"⟩ ⟨"LineFollowerBench$TrackReader", "readSigned", "(I)Z"⟩ : Cond) ∈ mTs := mTs_in 32 (by decide +kernel) (by decide +kernel)
theorem l_X8_74 : mLinkV "LineFollowerBench$TrackReader" 74 1 mX8_readSigned := ⟨⟨by decide, by decide, by decide +kernel⟩, co_X8_readSigned, u1007, u1009, u32⟩
set_option maxHeartbeats 4000000 in
set_option maxRecDepth 100000 in
theorem gX8_readSegment_0 {G : mG} {w : mH} {Φ : mF} {a0 : Nat} {x1 : Int32} {lt : Nat → Nat} {n : Nat} {B : Nat → Int32} {a0_3 : Nat} (h1 : hk w a0 = (8, 0)) (h2 : zRea w a0) (s1 : rdX w a0 lt n) (s2 : rdP w a0 ≤ 900) (h3 : hfr w a0 3 = some a0_3) (h4 : hk w a0_3 = (7, 0)) (h5 : zTrk w a0_3) (s3 : ∀ w1 : mH, (mFr a0 (a0 + 1) w w1 ∧ rdO w w1 a0 (pNum 1 1 99 lt n (rdP w a0))) → (¬ ((isL (pNum 1 1 99 lt n (rdP w a0))) = 0)) → (x1 = 0) → kRep w1 a0_3 B) (s4 : ∀ w1 : mH, (mFr a0 (a0 + 1) w w1 ∧ rdO w w1 a0 (pNum 1 1 99 lt n (rdP w a0))) → (¬ ((isL (pNum 1 1 99 lt n (rdP w a0))) = 0)) → (x1 = 0) → nSg B < 8) (s5 : ∀ w1 : mH, (mFr a0 (a0 + 1) w w1 ∧ rdO w w1 a0 (pNum 1 1 99 lt n (rdP w a0))) → (¬ ((isL (pNum 1 1 99 lt n (rdP w a0))) = 0)) → (¬ (x1 = 0)) → rdX w1 a0 lt n) (s6 : ∀ w1 : mH, (mFr a0 (a0 + 1) w w1 ∧ rdO w w1 a0 (pNum 1 1 99 lt n (rdP w a0))) → (¬ ((isL (pNum 1 1 99 lt n (rdP w a0))) = 0)) → (¬ (x1 = 0)) → 58 = nI (nT 58)) (s7 : ∀ w1 : mH, (mFr a0 (a0 + 1) w w1 ∧ rdO w w1 a0 (pNum 1 1 99 lt n (rdP w a0))) → (¬ ((isL (pNum 1 1 99 lt n (rdP w a0))) = 0)) → (¬ (x1 = 0)) → nT 58 ≤ 126) (s8 : ∀ w1 : mH, (mFr a0 (a0 + 1) w w1 ∧ rdO w w1 a0 (pNum 1 1 99 lt n (rdP w a0))) → (¬ ((isL (pNum 1 1 99 lt n (rdP w a0))) = 0)) → (¬ (x1 = 0)) → ∀ w3 : mH, (mFr a0 (a0 + 1) w1 w3 ∧ rdC w1 w3 a0 (pCh (nT 58) lt n (rdP w1 a0))) → (¬ ((isL (pCh (nT 58) lt n (rdP w1 a0))) = 0)) → rdX w3 a0 lt n) (s9 : ∀ w1 : mH, (mFr a0 (a0 + 1) w w1 ∧ rdO w w1 a0 (pNum 1 1 99 lt n (rdP w a0))) → (¬ ((isL (pNum 1 1 99 lt n (rdP w a0))) = 0)) → (¬ (x1 = 0)) → ∀ w3 : mH, (mFr a0 (a0 + 1) w1 w3 ∧ rdC w1 w3 a0 (pCh (nT 58) lt n (rdP w1 a0))) → (¬ ((isL (pCh (nT 58) lt n (rdP w1 a0))) = 0)) → rdP w3 a0 ≤ n) (s10 : ∀ w1 : mH, (mFr a0 (a0 + 1) w w1 ∧ rdO w w1 a0 (pNum 1 1 99 lt n (rdP w a0))) → (¬ ((isL (pNum 1 1 99 lt n (rdP w a0))) = 0)) → (¬ (x1 = 0)) → ∀ w3 : mH, (mFr a0 (a0 + 1) w1 w3 ∧ rdC w1 w3 a0 (pCh (nT 58) lt n (rdP w1 a0))) → (¬ ((isL (pCh (nT 58) lt n (rdP w1 a0))) = 0)) → ∀ w4 : mH, (mFr a0 (a0 + 1) w3 w4 ∧ rdO w3 w4 a0 (pSg 50 lt n (rdP w3 a0))) → (¬ ((isL (pSg 50 lt n (rdP w3 a0))) = 0)) → kRep w4 a0_3 B) (s11 : ∀ w1 : mH, (mFr a0 (a0 + 1) w w1 ∧ rdO w w1 a0 (pNum 1 1 99 lt n (rdP w a0))) → (¬ ((isL (pNum 1 1 99 lt n (rdP w a0))) = 0)) → (¬ (x1 = 0)) → ∀ w3 : mH, (mFr a0 (a0 + 1) w1 w3 ∧ rdC w1 w3 a0 (pCh (nT 58) lt n (rdP w1 a0))) → (¬ ((isL (pCh (nT 58) lt n (rdP w1 a0))) = 0)) → ∀ w4 : mH, (mFr a0 (a0 + 1) w3 w4 ∧ rdO w3 w4 a0 (pSg 50 lt n (rdP w3 a0))) → (¬ ((isL (pSg 50 lt n (rdP w3 a0))) = 0)) → nSg B < 8) (k1 : ∀ w1 : mH, (mFr a0 (a0 + 1) w w1 ∧ rdO w w1 a0 (pNum 1 1 99 lt n (rdP w a0))) → (¬ ((isL (pNum 1 1 99 lt n (rdP w a0))) = 0)) → (x1 = 0) → ∀ w2 : mH, (mFr a0_3 (a0_3 + 7) w1 w2 ∧ kRep w2 a0_3 (addSeg B x1 (hfi w1 a0 5) 0)) → Φ (.inl (some (.int 1))) w2) (k2 : ∀ w1 : mH, (mFr a0 (a0 + 1) w w1 ∧ rdO w w1 a0 (pNum 1 1 99 lt n (rdP w a0))) → (¬ ((isL (pNum 1 1 99 lt n (rdP w a0))) = 0)) → (¬ (x1 = 0)) → ∀ w3 : mH, (mFr a0 (a0 + 1) w1 w3 ∧ rdC w1 w3 a0 (pCh (nT 58) lt n (rdP w1 a0))) → ((isL (pCh (nT 58) lt n (rdP w1 a0))) = 0) → Φ (.inl (some (.int 0))) w3) (k3 : ∀ w1 : mH, (mFr a0 (a0 + 1) w w1 ∧ rdO w w1 a0 (pNum 1 1 99 lt n (rdP w a0))) → (¬ ((isL (pNum 1 1 99 lt n (rdP w a0))) = 0)) → (¬ (x1 = 0)) → ∀ w3 : mH, (mFr a0 (a0 + 1) w1 w3 ∧ rdC w1 w3 a0 (pCh (nT 58) lt n (rdP w1 a0))) → (¬ ((isL (pCh (nT 58) lt n (rdP w1 a0))) = 0)) → ∀ w4 : mH, (mFr a0 (a0 + 1) w3 w4 ∧ rdO w3 w4 a0 (pSg 50 lt n (rdP w3 a0))) → (¬ ((isL (pSg 50 lt n (rdP w3 a0))) = 0)) → ∀ w5 : mH, (mFr a0_3 (a0_3 + 7) w4 w5 ∧ kRep w5 a0_3 (addSeg B x1 (hfi w1 a0 5) (hfi w4 a0 5))) → Φ (.inl (some (.int 1))) w5) (k4 : ∀ w1 : mH, (mFr a0 (a0 + 1) w w1 ∧ rdO w w1 a0 (pNum 1 1 99 lt n (rdP w a0))) → (¬ ((isL (pNum 1 1 99 lt n (rdP w a0))) = 0)) → (¬ (x1 = 0)) → ∀ w3 : mH, (mFr a0 (a0 + 1) w1 w3 ∧ rdC w1 w3 a0 (pCh (nT 58) lt n (rdP w1 a0))) → (¬ ((isL (pCh (nT 58) lt n (rdP w1 a0))) = 0)) → ∀ w4 : mH, (mFr a0 (a0 + 1) w3 w4 ∧ rdO w3 w4 a0 (pSg 50 lt n (rdP w3 a0))) → ((isL (pSg 50 lt n (rdP w3 a0))) = 0) → Φ (.inl (some (.int 0))) w4) (k5 : ∀ w1 : mH, (mFr a0 (a0 + 1) w w1 ∧ rdO w w1 a0 (pNum 1 1 99 lt n (rdP w a0))) → ((isL (pNum 1 1 99 lt n (rdP w a0))) = 0) → Φ (.inl (some (.int 0))) w1) : mW G mX8_readSegment 4 0 0 0 [(0, .ref a0), (1, .int x1)] [] w Φ := by
  refine mW_aload_n (j := 0) dX8_readSegment_0 rfl rfl ?_
  refine mW_iconst (v := 1) dX8_readSegment_1 (by decide) ?_
  refine mW_iconst (v := 1) dX8_readSegment_2 (by decide) ?_
  refine mW_bipush (v := 99) dX8_readSegment_3 (by decide) ?_
  refine mW_callV (As := [.int 1, .int 1, .int 99]) (rest := []) (kc2 := 0) (ks2 := 0) dX8_readSegment_5 l_X8_71 rfl h1 rfl (by decide) (rX8_readNumber' (w := w) (a0 := a0) (x1 := 1) (x2 := 1) (x3 := 99) h2 s1 s2) (Nat.le_of_ble_eq_true rfl) (by decide) rfl rfl mP_x (mP_k (fun w1 q1 => ?_))
  refine mW_if_ne (tgt := 13) dX8_readSegment_8 (by decide) (fun c1 => ?_) (fun c1 => ?_)
  · refine mW_aload_n (j := 0) dX8_readSegment_13 rfl rfl ?_
    refine mW_get dX8_readSegment_14 f_X8_32 (s2k (mS2.of q1.1.1) h1) rfl ?_
    refine mW_istore_n (lv2 := [(2, .int (hfi w1 a0 5)), (0, .ref a0), (1, .int x1)]) dX8_readSegment_17 rfl (by decide) rfl ?_
    refine mW_iconst (v := 0) dX8_readSegment_18 (by decide) ?_
    refine mW_istore_n (lv2 := [(3, .int 0), (2, .int (hfi w1 a0 5)), (0, .ref a0), (1, .int x1)]) dX8_readSegment_19 rfl (by decide) rfl ?_
    refine mW_iload_n (j := 3) dX8_readSegment_20 rfl rfl ?_
    refine mW_if_eq (tgt := 49) dX8_readSegment_21 (by decide) (fun c2 => ?_) (fun c2 => ?_)
    · refine mW_aload_n (j := 2) dX8_readSegment_49 rfl rfl ?_
      refine mW_getR dX8_readSegment_50 f_X8_25 (s2k (mS2.of q1.1.1) h1) rfl (s2r (mS2.of q1.1.1) h3) ?_
      refine mW_iload_n (j := 3) dX8_readSegment_53 rfl rfl ?_
      refine mW_iload_n (j := 1) dX8_readSegment_54 rfl rfl ?_
      refine mW_iload_n (j := 0) dX8_readSegment_55 rfl rfl ?_
      refine mW_callV (As := [.int x1, .int (hfi w1 a0 5), .int 0]) (rest := []) (kc2 := 0) (ks2 := 0) dX8_readSegment_56 l_X8_77 rfl (s2k (mS2.of q1.1.1) h4) rfl (by decide) (rX7_addSegment (w := w1) (a0 := a0_3) (x1 := x1) (x2 := hfi w1 a0 5) (x3 := 0) (zTrk_s2 (mS2.of q1.1.1) h5) (s3 w1 q1 c1 c2) (s4 w1 q1 c1 c2)) (Nat.le_of_ble_eq_true rfl) (by decide) rfl rfl mP_x (mP_k (fun w2 q2 => ?_))
      refine mW_iconst (v := 1) dX8_readSegment_59 (by decide) ?_
      exact mW_zret (ty := .boolean) dX8_readSegment_60 rfl (by first | rfl | decide) (k1 w1 q1 c1 c2 w2 q2)
    · refine mW_aload_n (j := 2) dX8_readSegment_24 rfl rfl ?_
      refine mW_bipush (v := 58) dX8_readSegment_25 (by decide) ?_
      refine mW_callV (As := [.int 58]) (rest := []) (kc2 := 0) (ks2 := 0) dX8_readSegment_27 l_X8_46 rfl (s2k (mS2.of q1.1.1) h1) rfl (by decide) (rX8_readSign (w := w1) (a0 := a0) (x1 := 58) (zRea_s2 (mS2.of q1.1.1) h2) (s5 w1 q1 c1 c2) (s6 w1 q1 c1 c2) (s7 w1 q1 c1 c2)) (Nat.le_of_ble_eq_true rfl) (by decide) rfl rfl mP_x (mP_k (fun w3 q3 => ?_))
      refine mW_if_eq (tgt := 42) dX8_readSegment_30 (by decide) (fun c3 => ?_) (fun c3 => ?_)
      · refine mW_iconst (v := 0) dX8_readSegment_42 (by decide) ?_
        exact mW_zret (ty := .boolean) dX8_readSegment_43 rfl (by first | rfl | decide) (k2 w1 q1 c1 c2 w3 q3 c3)
      · refine mW_aload_n (j := 2) dX8_readSegment_33 rfl rfl ?_
        refine mW_bipush (v := 50) dX8_readSegment_34 (by decide) ?_
        refine mW_callV (As := [.int 50]) (rest := []) (kc2 := 0) (ks2 := 0) dX8_readSegment_36 l_X8_74 rfl (s2k (mS2.of q3.1.1) (s2k (mS2.of q1.1.1) h1)) rfl (by decide) (rX8_readSigned (w := w3) (a0 := a0) (x1 := 50) (zRea_s2 (mS2.of q3.1.1) (zRea_s2 (mS2.of q1.1.1) h2)) (s8 w1 q1 c1 c2 w3 q3 c3) (s9 w1 q1 c1 c2 w3 q3 c3)) (Nat.le_of_ble_eq_true rfl) (by decide) rfl rfl mP_x (mP_k (fun w4 q4 => ?_))
        refine mW_if_ne (tgt := 44) dX8_readSegment_39 (by decide) (fun c4 => ?_) (fun c4 => ?_)
        · refine mW_aload_n (j := 2) dX8_readSegment_44 rfl rfl ?_
          refine mW_get dX8_readSegment_45 f_X8_32 (s2k (mS2.of q4.1.1) (s2k (mS2.of q3.1.1) (s2k (mS2.of q1.1.1) h1))) rfl ?_
          refine mW_istore_n (lv2 := [(3, .int (hfi w4 a0 5)), (2, .int (hfi w1 a0 5)), (0, .ref a0), (1, .int x1)]) dX8_readSegment_48 rfl (by decide) rfl ?_
          refine mW_aload_n (j := 2) dX8_readSegment_49 rfl rfl ?_
          refine mW_getR dX8_readSegment_50 f_X8_25 (s2k (mS2.of q4.1.1) (s2k (mS2.of q3.1.1) (s2k (mS2.of q1.1.1) h1))) rfl (s2r (mS2.of q4.1.1) (s2r (mS2.of q3.1.1) (s2r (mS2.of q1.1.1) h3))) ?_
          refine mW_iload_n (j := 3) dX8_readSegment_53 rfl rfl ?_
          refine mW_iload_n (j := 1) dX8_readSegment_54 rfl rfl ?_
          refine mW_iload_n (j := 0) dX8_readSegment_55 rfl rfl ?_
          refine mW_callV (As := [.int x1, .int (hfi w1 a0 5), .int (hfi w4 a0 5)]) (rest := []) (kc2 := 0) (ks2 := 0) dX8_readSegment_56 l_X8_77 rfl (s2k (mS2.of q4.1.1) (s2k (mS2.of q3.1.1) (s2k (mS2.of q1.1.1) h4))) rfl (by decide) (rX7_addSegment (w := w4) (a0 := a0_3) (x1 := x1) (x2 := hfi w1 a0 5) (x3 := hfi w4 a0 5) (zTrk_s2 (mS2.of q4.1.1) (zTrk_s2 (mS2.of q3.1.1) (zTrk_s2 (mS2.of q1.1.1) h5))) (s10 w1 q1 c1 c2 w3 q3 c3 w4 q4 c4) (s11 w1 q1 c1 c2 w3 q3 c3 w4 q4 c4)) (Nat.le_of_ble_eq_true rfl) (by decide) rfl rfl mP_x (mP_k (fun w5 q5 => ?_))
          refine mW_iconst (v := 1) dX8_readSegment_59 (by decide) ?_
          exact mW_zret (ty := .boolean) dX8_readSegment_60 rfl (by first | rfl | decide) (k3 w1 q1 c1 c2 w3 q3 c3 w4 q4 c4 w5 q5)
        · refine mW_iconst (v := 0) dX8_readSegment_42 (by decide) ?_
          exact mW_zret (ty := .boolean) dX8_readSegment_43 rfl (by first | rfl | decide) (k4 w1 q1 c1 c2 w3 q3 c3 w4 q4 c4)
  · refine mW_iconst (v := 0) dX8_readSegment_11 (by decide) ?_
    exact mW_zret (ty := .boolean) dX8_readSegment_12 rfl (by first | rfl | decide) (k5 w1 q1 c1)
abbrev mX8_readDisturbance : mM := (yX8_readDisturbance, cX8_readDisturbance, 3, (some .boolean), [])
theorem u1014 : (Cond.code ⟨"LineFollowerBench$Track", "addDisturbance", "(III)V"⟩ prog_9_method_5_code 4 (none : Option ClassFile.FieldType) : Cond) ∈ mTs := mTs_in 1014 (by decide +kernel) (by decide +kernel)
theorem co_X7_addDisturbance : mCode mX7_addDisturbance := ⟨u1014, u74, by decide⟩
theorem u1011 : (Cond.methodLink "LineFollowerBench$TrackReader" 81 ⟨"LineFollowerBench$Track", "addDisturbance", "(III)V"⟩ : Cond) ∈ mTs := mTs_in 1011 (by decide +kernel) (by decide +kernel)
theorem u1012 : (Cond.instanceMethod ⟨"LineFollowerBench$Track", "addDisturbance", "(III)V"⟩ : Cond) ∈ mTs := mTs_in 1012 (by decide +kernel) (by decide +kernel)
theorem u1013 : (Cond.selects "LineFollowerBench$Track" ⟨"LineFollowerBench$Track", "addDisturbance", "(III)V"⟩ ⟨"LineFollowerBench$Track", "addDisturbance", "(III)V"⟩ : Cond) ∈ mTs := mTs_in 1013 (by decide +kernel) (by decide +kernel)
theorem l_X8_81 : mLinkV "LineFollowerBench$TrackReader" 81 3 mX7_addDisturbance := ⟨⟨by decide, by decide, by decide +kernel⟩, co_X7_addDisturbance, u1011, u1012, u1013⟩
set_option maxHeartbeats 4000000 in
set_option maxRecDepth 100000 in
theorem gX8_readDisturbance_0 {G : mG} {w : mH} {Φ : mF} {a0 : Nat} {lt : Nat → Nat} {n : Nat} {B : Nat → Int32} {a0_3 : Nat} (h1 : hk w a0 = (8, 0)) (h2 : zRea w a0) (s1 : rdX w a0 lt n) (s2 : rdP w a0 ≤ 900) (s3 : ∀ w1 : mH, (mFr a0 (a0 + 1) w w1 ∧ rdO w w1 a0 (pNum 1 0 199 lt n (rdP w a0))) → (¬ ((isL (pNum 1 0 199 lt n (rdP w a0))) = 0)) → rdX w1 a0 lt n) (s4 : ∀ w1 : mH, (mFr a0 (a0 + 1) w w1 ∧ rdO w w1 a0 (pNum 1 0 199 lt n (rdP w a0))) → (¬ ((isL (pNum 1 0 199 lt n (rdP w a0))) = 0)) → 58 = nI (nT 58)) (s5 : ∀ w1 : mH, (mFr a0 (a0 + 1) w w1 ∧ rdO w w1 a0 (pNum 1 0 199 lt n (rdP w a0))) → (¬ ((isL (pNum 1 0 199 lt n (rdP w a0))) = 0)) → nT 58 ≤ 126) (s6 : ∀ w1 : mH, (mFr a0 (a0 + 1) w w1 ∧ rdO w w1 a0 (pNum 1 0 199 lt n (rdP w a0))) → (¬ ((isL (pNum 1 0 199 lt n (rdP w a0))) = 0)) → ∀ w2 : mH, (mFr a0 (a0 + 1) w1 w2 ∧ rdC w1 w2 a0 (pCh (nT 58) lt n (rdP w1 a0))) → (¬ ((isL (pCh (nT 58) lt n (rdP w1 a0))) = 0)) → rdX w2 a0 lt n) (s7 : ∀ w1 : mH, (mFr a0 (a0 + 1) w w1 ∧ rdO w w1 a0 (pNum 1 0 199 lt n (rdP w a0))) → (¬ ((isL (pNum 1 0 199 lt n (rdP w a0))) = 0)) → ∀ w2 : mH, (mFr a0 (a0 + 1) w1 w2 ∧ rdC w1 w2 a0 (pCh (nT 58) lt n (rdP w1 a0))) → (¬ ((isL (pCh (nT 58) lt n (rdP w1 a0))) = 0)) → rdP w2 a0 ≤ n) (s8 : ∀ w1 : mH, (mFr a0 (a0 + 1) w w1 ∧ rdO w w1 a0 (pNum 1 0 199 lt n (rdP w a0))) → (¬ ((isL (pNum 1 0 199 lt n (rdP w a0))) = 0)) → ∀ w2 : mH, (mFr a0 (a0 + 1) w1 w2 ∧ rdC w1 w2 a0 (pCh (nT 58) lt n (rdP w1 a0))) → (¬ ((isL (pCh (nT 58) lt n (rdP w1 a0))) = 0)) → ∀ w3 : mH, (mFr a0 (a0 + 1) w2 w3 ∧ rdO w2 w3 a0 (pSg 500 lt n (rdP w2 a0))) → (¬ ((isL (pSg 500 lt n (rdP w2 a0))) = 0)) → rdX w3 a0 lt n) (s9 : ∀ w1 : mH, (mFr a0 (a0 + 1) w w1 ∧ rdO w w1 a0 (pNum 1 0 199 lt n (rdP w a0))) → (¬ ((isL (pNum 1 0 199 lt n (rdP w a0))) = 0)) → ∀ w2 : mH, (mFr a0 (a0 + 1) w1 w2 ∧ rdC w1 w2 a0 (pCh (nT 58) lt n (rdP w1 a0))) → (¬ ((isL (pCh (nT 58) lt n (rdP w1 a0))) = 0)) → ∀ w3 : mH, (mFr a0 (a0 + 1) w2 w3 ∧ rdO w2 w3 a0 (pSg 500 lt n (rdP w2 a0))) → (¬ ((isL (pSg 500 lt n (rdP w2 a0))) = 0)) → 42 = nI (nT 42)) (s10 : ∀ w1 : mH, (mFr a0 (a0 + 1) w w1 ∧ rdO w w1 a0 (pNum 1 0 199 lt n (rdP w a0))) → (¬ ((isL (pNum 1 0 199 lt n (rdP w a0))) = 0)) → ∀ w2 : mH, (mFr a0 (a0 + 1) w1 w2 ∧ rdC w1 w2 a0 (pCh (nT 58) lt n (rdP w1 a0))) → (¬ ((isL (pCh (nT 58) lt n (rdP w1 a0))) = 0)) → ∀ w3 : mH, (mFr a0 (a0 + 1) w2 w3 ∧ rdO w2 w3 a0 (pSg 500 lt n (rdP w2 a0))) → (¬ ((isL (pSg 500 lt n (rdP w2 a0))) = 0)) → nT 42 ≤ 126) (s11 : ∀ w1 : mH, (mFr a0 (a0 + 1) w w1 ∧ rdO w w1 a0 (pNum 1 0 199 lt n (rdP w a0))) → (¬ ((isL (pNum 1 0 199 lt n (rdP w a0))) = 0)) → ∀ w2 : mH, (mFr a0 (a0 + 1) w1 w2 ∧ rdC w1 w2 a0 (pCh (nT 58) lt n (rdP w1 a0))) → (¬ ((isL (pCh (nT 58) lt n (rdP w1 a0))) = 0)) → ∀ w3 : mH, (mFr a0 (a0 + 1) w2 w3 ∧ rdO w2 w3 a0 (pSg 500 lt n (rdP w2 a0))) → (¬ ((isL (pSg 500 lt n (rdP w2 a0))) = 0)) → ∀ w4 : mH, (mFr a0 (a0 + 1) w3 w4 ∧ rdC w3 w4 a0 (pCh (nT 42) lt n (rdP w3 a0))) → (¬ ((isL (pCh (nT 42) lt n (rdP w3 a0))) = 0)) → rdX w4 a0 lt n) (s12 : ∀ w1 : mH, (mFr a0 (a0 + 1) w w1 ∧ rdO w w1 a0 (pNum 1 0 199 lt n (rdP w a0))) → (¬ ((isL (pNum 1 0 199 lt n (rdP w a0))) = 0)) → ∀ w2 : mH, (mFr a0 (a0 + 1) w1 w2 ∧ rdC w1 w2 a0 (pCh (nT 58) lt n (rdP w1 a0))) → (¬ ((isL (pCh (nT 58) lt n (rdP w1 a0))) = 0)) → ∀ w3 : mH, (mFr a0 (a0 + 1) w2 w3 ∧ rdO w2 w3 a0 (pSg 500 lt n (rdP w2 a0))) → (¬ ((isL (pSg 500 lt n (rdP w2 a0))) = 0)) → ∀ w4 : mH, (mFr a0 (a0 + 1) w3 w4 ∧ rdC w3 w4 a0 (pCh (nT 42) lt n (rdP w3 a0))) → (¬ ((isL (pCh (nT 42) lt n (rdP w3 a0))) = 0)) → rdP w4 a0 ≤ 900) (h3 : hfr w a0 3 = some a0_3) (h4 : hk w a0_3 = (7, 0)) (h5 : zTrk w a0_3) (s13 : ∀ w1 : mH, (mFr a0 (a0 + 1) w w1 ∧ rdO w w1 a0 (pNum 1 0 199 lt n (rdP w a0))) → (¬ ((isL (pNum 1 0 199 lt n (rdP w a0))) = 0)) → ∀ w2 : mH, (mFr a0 (a0 + 1) w1 w2 ∧ rdC w1 w2 a0 (pCh (nT 58) lt n (rdP w1 a0))) → (¬ ((isL (pCh (nT 58) lt n (rdP w1 a0))) = 0)) → ∀ w3 : mH, (mFr a0 (a0 + 1) w2 w3 ∧ rdO w2 w3 a0 (pSg 500 lt n (rdP w2 a0))) → (¬ ((isL (pSg 500 lt n (rdP w2 a0))) = 0)) → ∀ w4 : mH, (mFr a0 (a0 + 1) w3 w4 ∧ rdC w3 w4 a0 (pCh (nT 42) lt n (rdP w3 a0))) → (¬ ((isL (pCh (nT 42) lt n (rdP w3 a0))) = 0)) → ∀ w5 : mH, (mFr a0 (a0 + 1) w4 w5 ∧ rdO w4 w5 a0 (pNum 1 1 99 lt n (rdP w4 a0))) → (¬ ((isL (pNum 1 1 99 lt n (rdP w4 a0))) = 0)) → kRep w5 a0_3 B) (s14 : ∀ w1 : mH, (mFr a0 (a0 + 1) w w1 ∧ rdO w w1 a0 (pNum 1 0 199 lt n (rdP w a0))) → (¬ ((isL (pNum 1 0 199 lt n (rdP w a0))) = 0)) → ∀ w2 : mH, (mFr a0 (a0 + 1) w1 w2 ∧ rdC w1 w2 a0 (pCh (nT 58) lt n (rdP w1 a0))) → (¬ ((isL (pCh (nT 58) lt n (rdP w1 a0))) = 0)) → ∀ w3 : mH, (mFr a0 (a0 + 1) w2 w3 ∧ rdO w2 w3 a0 (pSg 500 lt n (rdP w2 a0))) → (¬ ((isL (pSg 500 lt n (rdP w2 a0))) = 0)) → ∀ w4 : mH, (mFr a0 (a0 + 1) w3 w4 ∧ rdC w3 w4 a0 (pCh (nT 42) lt n (rdP w3 a0))) → (¬ ((isL (pCh (nT 42) lt n (rdP w3 a0))) = 0)) → ∀ w5 : mH, (mFr a0 (a0 + 1) w4 w5 ∧ rdO w4 w5 a0 (pNum 1 1 99 lt n (rdP w4 a0))) → (¬ ((isL (pNum 1 1 99 lt n (rdP w4 a0))) = 0)) → nPs B < 4) (k1 : ∀ w1 : mH, (mFr a0 (a0 + 1) w w1 ∧ rdO w w1 a0 (pNum 1 0 199 lt n (rdP w a0))) → (¬ ((isL (pNum 1 0 199 lt n (rdP w a0))) = 0)) → ∀ w2 : mH, (mFr a0 (a0 + 1) w1 w2 ∧ rdC w1 w2 a0 (pCh (nT 58) lt n (rdP w1 a0))) → ((isL (pCh (nT 58) lt n (rdP w1 a0))) = 0) → Φ (.inl (some (.int 0))) w2) (k2 : ∀ w1 : mH, (mFr a0 (a0 + 1) w w1 ∧ rdO w w1 a0 (pNum 1 0 199 lt n (rdP w a0))) → (¬ ((isL (pNum 1 0 199 lt n (rdP w a0))) = 0)) → ∀ w2 : mH, (mFr a0 (a0 + 1) w1 w2 ∧ rdC w1 w2 a0 (pCh (nT 58) lt n (rdP w1 a0))) → (¬ ((isL (pCh (nT 58) lt n (rdP w1 a0))) = 0)) → ∀ w3 : mH, (mFr a0 (a0 + 1) w2 w3 ∧ rdO w2 w3 a0 (pSg 500 lt n (rdP w2 a0))) → (¬ ((isL (pSg 500 lt n (rdP w2 a0))) = 0)) → ∀ w4 : mH, (mFr a0 (a0 + 1) w3 w4 ∧ rdC w3 w4 a0 (pCh (nT 42) lt n (rdP w3 a0))) → ((isL (pCh (nT 42) lt n (rdP w3 a0))) = 0) → Φ (.inl (some (.int 0))) w4) (k3 : ∀ w1 : mH, (mFr a0 (a0 + 1) w w1 ∧ rdO w w1 a0 (pNum 1 0 199 lt n (rdP w a0))) → (¬ ((isL (pNum 1 0 199 lt n (rdP w a0))) = 0)) → ∀ w2 : mH, (mFr a0 (a0 + 1) w1 w2 ∧ rdC w1 w2 a0 (pCh (nT 58) lt n (rdP w1 a0))) → (¬ ((isL (pCh (nT 58) lt n (rdP w1 a0))) = 0)) → ∀ w3 : mH, (mFr a0 (a0 + 1) w2 w3 ∧ rdO w2 w3 a0 (pSg 500 lt n (rdP w2 a0))) → (¬ ((isL (pSg 500 lt n (rdP w2 a0))) = 0)) → ∀ w4 : mH, (mFr a0 (a0 + 1) w3 w4 ∧ rdC w3 w4 a0 (pCh (nT 42) lt n (rdP w3 a0))) → (¬ ((isL (pCh (nT 42) lt n (rdP w3 a0))) = 0)) → ∀ w5 : mH, (mFr a0 (a0 + 1) w4 w5 ∧ rdO w4 w5 a0 (pNum 1 1 99 lt n (rdP w4 a0))) → (¬ ((isL (pNum 1 1 99 lt n (rdP w4 a0))) = 0)) → ∀ w6 : mH, (mFr a0_3 (a0_3 + 7) w5 w6 ∧ kRep w6 a0_3 (addPus B (hfi w1 a0 5) (hfi w3 a0 5) (hfi w5 a0 5))) → Φ (.inl (some (.int 1))) w6) (k4 : ∀ w1 : mH, (mFr a0 (a0 + 1) w w1 ∧ rdO w w1 a0 (pNum 1 0 199 lt n (rdP w a0))) → (¬ ((isL (pNum 1 0 199 lt n (rdP w a0))) = 0)) → ∀ w2 : mH, (mFr a0 (a0 + 1) w1 w2 ∧ rdC w1 w2 a0 (pCh (nT 58) lt n (rdP w1 a0))) → (¬ ((isL (pCh (nT 58) lt n (rdP w1 a0))) = 0)) → ∀ w3 : mH, (mFr a0 (a0 + 1) w2 w3 ∧ rdO w2 w3 a0 (pSg 500 lt n (rdP w2 a0))) → (¬ ((isL (pSg 500 lt n (rdP w2 a0))) = 0)) → ∀ w4 : mH, (mFr a0 (a0 + 1) w3 w4 ∧ rdC w3 w4 a0 (pCh (nT 42) lt n (rdP w3 a0))) → (¬ ((isL (pCh (nT 42) lt n (rdP w3 a0))) = 0)) → ∀ w5 : mH, (mFr a0 (a0 + 1) w4 w5 ∧ rdO w4 w5 a0 (pNum 1 1 99 lt n (rdP w4 a0))) → ((isL (pNum 1 1 99 lt n (rdP w4 a0))) = 0) → Φ (.inl (some (.int 0))) w5) (k5 : ∀ w1 : mH, (mFr a0 (a0 + 1) w w1 ∧ rdO w w1 a0 (pNum 1 0 199 lt n (rdP w a0))) → (¬ ((isL (pNum 1 0 199 lt n (rdP w a0))) = 0)) → ∀ w2 : mH, (mFr a0 (a0 + 1) w1 w2 ∧ rdC w1 w2 a0 (pCh (nT 58) lt n (rdP w1 a0))) → (¬ ((isL (pCh (nT 58) lt n (rdP w1 a0))) = 0)) → ∀ w3 : mH, (mFr a0 (a0 + 1) w2 w3 ∧ rdO w2 w3 a0 (pSg 500 lt n (rdP w2 a0))) → ((isL (pSg 500 lt n (rdP w2 a0))) = 0) → Φ (.inl (some (.int 0))) w3) (k6 : ∀ w1 : mH, (mFr a0 (a0 + 1) w w1 ∧ rdO w w1 a0 (pNum 1 0 199 lt n (rdP w a0))) → ((isL (pNum 1 0 199 lt n (rdP w a0))) = 0) → Φ (.inl (some (.int 0))) w1) : mW G mX8_readDisturbance 4 0 0 0 [(0, .ref a0)] [] w Φ := by
  refine mW_aload_n (j := 0) dX8_readDisturbance_0 rfl rfl ?_
  refine mW_iconst (v := 1) dX8_readDisturbance_1 (by decide) ?_
  refine mW_iconst (v := 0) dX8_readDisturbance_2 (by decide) ?_
  refine mW_sipush (v := 199) dX8_readDisturbance_3 (by decide) ?_
  refine mW_callV (As := [.int 1, .int 0, .int 199]) (rest := []) (kc2 := 0) (ks2 := 0) dX8_readDisturbance_6 l_X8_71 rfl h1 rfl (by decide) (rX8_readNumber' (w := w) (a0 := a0) (x1 := 1) (x2 := 0) (x3 := 199) h2 s1 s2) (Nat.le_of_ble_eq_true rfl) (by decide) rfl rfl mP_x (mP_k (fun w1 q1 => ?_))
  refine mW_if_ne (tgt := 14) dX8_readDisturbance_9 (by decide) (fun c1 => ?_) (fun c1 => ?_)
  · refine mW_aload_n (j := 0) dX8_readDisturbance_14 rfl rfl ?_
    refine mW_get dX8_readDisturbance_15 f_X8_32 (s2k (mS2.of q1.1.1) h1) rfl ?_
    refine mW_istore_n (lv2 := [(1, .int (hfi w1 a0 5)), (0, .ref a0)]) dX8_readDisturbance_18 rfl (by decide) rfl ?_
    refine mW_aload_n (j := 1) dX8_readDisturbance_19 rfl rfl ?_
    refine mW_bipush (v := 58) dX8_readDisturbance_20 (by decide) ?_
    refine mW_callV (As := [.int 58]) (rest := []) (kc2 := 0) (ks2 := 0) dX8_readDisturbance_22 l_X8_46 rfl (s2k (mS2.of q1.1.1) h1) rfl (by decide) (rX8_readSign (w := w1) (a0 := a0) (x1 := 58) (zRea_s2 (mS2.of q1.1.1) h2) (s3 w1 q1 c1) (s4 w1 q1 c1) (s5 w1 q1 c1)) (Nat.le_of_ble_eq_true rfl) (by decide) rfl rfl mP_x (mP_k (fun w2 q2 => ?_))
    refine mW_if_eq (tgt := 38) dX8_readDisturbance_25 (by decide) (fun c2 => ?_) (fun c2 => ?_)
    · refine mW_iconst (v := 0) dX8_readDisturbance_38 (by decide) ?_
      exact mW_zret (ty := .boolean) dX8_readDisturbance_39 rfl (by first | rfl | decide) (k1 w1 q1 c1 w2 q2 c2)
    · refine mW_aload_n (j := 1) dX8_readDisturbance_28 rfl rfl ?_
      refine mW_sipush (v := 500) dX8_readDisturbance_29 (by decide) ?_
      refine mW_callV (As := [.int 500]) (rest := []) (kc2 := 0) (ks2 := 0) dX8_readDisturbance_32 l_X8_74 rfl (s2k (mS2.of q2.1.1) (s2k (mS2.of q1.1.1) h1)) rfl (by decide) (rX8_readSigned (w := w2) (a0 := a0) (x1 := 500) (zRea_s2 (mS2.of q2.1.1) (zRea_s2 (mS2.of q1.1.1) h2)) (s6 w1 q1 c1 w2 q2 c2) (s7 w1 q1 c1 w2 q2 c2)) (Nat.le_of_ble_eq_true rfl) (by decide) rfl rfl mP_x (mP_k (fun w3 q3 => ?_))
      refine mW_if_ne (tgt := 40) dX8_readDisturbance_35 (by decide) (fun c3 => ?_) (fun c3 => ?_)
      · refine mW_aload_n (j := 1) dX8_readDisturbance_40 rfl rfl ?_
        refine mW_get dX8_readDisturbance_41 f_X8_32 (s2k (mS2.of q3.1.1) (s2k (mS2.of q2.1.1) (s2k (mS2.of q1.1.1) h1))) rfl ?_
        refine mW_istore_n (lv2 := [(2, .int (hfi w3 a0 5)), (1, .int (hfi w1 a0 5)), (0, .ref a0)]) dX8_readDisturbance_44 rfl (by decide) rfl ?_
        refine mW_aload_n (j := 2) dX8_readDisturbance_45 rfl rfl ?_
        refine mW_bipush (v := 42) dX8_readDisturbance_46 (by decide) ?_
        refine mW_callV (As := [.int 42]) (rest := []) (kc2 := 0) (ks2 := 0) dX8_readDisturbance_48 l_X8_46 rfl (s2k (mS2.of q3.1.1) (s2k (mS2.of q2.1.1) (s2k (mS2.of q1.1.1) h1))) rfl (by decide) (rX8_readSign (w := w3) (a0 := a0) (x1 := 42) (zRea_s2 (mS2.of q3.1.1) (zRea_s2 (mS2.of q2.1.1) (zRea_s2 (mS2.of q1.1.1) h2))) (s8 w1 q1 c1 w2 q2 c2 w3 q3 c3) (s9 w1 q1 c1 w2 q2 c2 w3 q3 c3) (s10 w1 q1 c1 w2 q2 c2 w3 q3 c3)) (Nat.le_of_ble_eq_true rfl) (by decide) rfl rfl mP_x (mP_k (fun w4 q4 => ?_))
        refine mW_if_eq (tgt := 65) dX8_readDisturbance_51 (by decide) (fun c4 => ?_) (fun c4 => ?_)
        · refine mW_iconst (v := 0) dX8_readDisturbance_65 (by decide) ?_
          exact mW_zret (ty := .boolean) dX8_readDisturbance_66 rfl (by first | rfl | decide) (k2 w1 q1 c1 w2 q2 c2 w3 q3 c3 w4 q4 c4)
        · refine mW_aload_n (j := 2) dX8_readDisturbance_54 rfl rfl ?_
          refine mW_iconst (v := 1) dX8_readDisturbance_55 (by decide) ?_
          refine mW_iconst (v := 1) dX8_readDisturbance_56 (by decide) ?_
          refine mW_bipush (v := 99) dX8_readDisturbance_57 (by decide) ?_
          refine mW_callV (As := [.int 1, .int 1, .int 99]) (rest := []) (kc2 := 0) (ks2 := 0) dX8_readDisturbance_59 l_X8_71 rfl (s2k (mS2.of q4.1.1) (s2k (mS2.of q3.1.1) (s2k (mS2.of q2.1.1) (s2k (mS2.of q1.1.1) h1)))) rfl (by decide) (rX8_readNumber' (w := w4) (a0 := a0) (x1 := 1) (x2 := 1) (x3 := 99) (zRea_s2 (mS2.of q4.1.1) (zRea_s2 (mS2.of q3.1.1) (zRea_s2 (mS2.of q2.1.1) (zRea_s2 (mS2.of q1.1.1) h2)))) (s11 w1 q1 c1 w2 q2 c2 w3 q3 c3 w4 q4 c4) (s12 w1 q1 c1 w2 q2 c2 w3 q3 c3 w4 q4 c4)) (Nat.le_of_ble_eq_true rfl) (by decide) rfl rfl mP_x (mP_k (fun w5 q5 => ?_))
          refine mW_if_ne (tgt := 67) dX8_readDisturbance_62 (by decide) (fun c5 => ?_) (fun c5 => ?_)
          · refine mW_aload_n (j := 2) dX8_readDisturbance_67 rfl rfl ?_
            refine mW_getR dX8_readDisturbance_68 f_X8_25 (s2k (mS2.of q5.1.1) (s2k (mS2.of q4.1.1) (s2k (mS2.of q3.1.1) (s2k (mS2.of q2.1.1) (s2k (mS2.of q1.1.1) h1))))) rfl (s2r (mS2.of q5.1.1) (s2r (mS2.of q4.1.1) (s2r (mS2.of q3.1.1) (s2r (mS2.of q2.1.1) (s2r (mS2.of q1.1.1) h3))))) ?_
            refine mW_iload_n (j := 1) dX8_readDisturbance_71 rfl rfl ?_
            refine mW_iload_n (j := 0) dX8_readDisturbance_72 rfl rfl ?_
            refine mW_aload_n (j := 2) dX8_readDisturbance_73 rfl rfl ?_
            refine mW_get dX8_readDisturbance_74 f_X8_32 (s2k (mS2.of q5.1.1) (s2k (mS2.of q4.1.1) (s2k (mS2.of q3.1.1) (s2k (mS2.of q2.1.1) (s2k (mS2.of q1.1.1) h1))))) rfl ?_
            refine mW_callV (As := [.int (hfi w1 a0 5), .int (hfi w3 a0 5), .int (hfi w5 a0 5)]) (rest := []) (kc2 := 0) (ks2 := 0) dX8_readDisturbance_77 l_X8_81 rfl (s2k (mS2.of q5.1.1) (s2k (mS2.of q4.1.1) (s2k (mS2.of q3.1.1) (s2k (mS2.of q2.1.1) (s2k (mS2.of q1.1.1) h4))))) rfl (by decide) (rX7_addDisturbance (w := w5) (a0 := a0_3) (x1 := hfi w1 a0 5) (x2 := hfi w3 a0 5) (x3 := hfi w5 a0 5) (zTrk_s2 (mS2.of q5.1.1) (zTrk_s2 (mS2.of q4.1.1) (zTrk_s2 (mS2.of q3.1.1) (zTrk_s2 (mS2.of q2.1.1) (zTrk_s2 (mS2.of q1.1.1) h5))))) (s13 w1 q1 c1 w2 q2 c2 w3 q3 c3 w4 q4 c4 w5 q5 c5) (s14 w1 q1 c1 w2 q2 c2 w3 q3 c3 w4 q4 c4 w5 q5 c5)) (Nat.le_of_ble_eq_true rfl) (by decide) rfl rfl mP_x (mP_k (fun w6 q6 => ?_))
            refine mW_iconst (v := 1) dX8_readDisturbance_80 (by decide) ?_
            exact mW_zret (ty := .boolean) dX8_readDisturbance_81 rfl (by first | rfl | decide) (k3 w1 q1 c1 w2 q2 c2 w3 q3 c3 w4 q4 c4 w5 q5 c5 w6 q6)
          · refine mW_iconst (v := 0) dX8_readDisturbance_65 (by decide) ?_
            exact mW_zret (ty := .boolean) dX8_readDisturbance_66 rfl (by first | rfl | decide) (k4 w1 q1 c1 w2 q2 c2 w3 q3 c3 w4 q4 c4 w5 q5 c5)
      · refine mW_iconst (v := 0) dX8_readDisturbance_38 (by decide) ?_
        exact mW_zret (ty := .boolean) dX8_readDisturbance_39 rfl (by first | rfl | decide) (k5 w1 q1 c1 w2 q2 c2 w3 q3 c3)
  · refine mW_iconst (v := 0) dX8_readDisturbance_12 (by decide) ?_
    exact mW_zret (ty := .boolean) dX8_readDisturbance_13 rfl (by first | rfl | decide) (k6 w1 q1 c1)
theorem stO {w w1 : mH} {a n : Nat} {lt : Nat → Nat} {r : (Nat × Int32) ⊕ Nat} (h : rdX w a lt n) (f : mFr a (a + 1) w w1) (o : rdO w w1 a r) (hb : ∀ x, r = .inl x → x.1 ≤ n) (c : ¬ isL r = 0) : ∃ x, r = .inl x ∧ rdX w1 a lt n ∧ rdP w1 a = x.1 ∧ x.1 ≤ n ∧ hfi w1 a 1 = hfi w a 1 ∧ hfi w1 a 2 = hfi w a 2 ∧ hfi w1 a 5 = x.2 := by
  obtain ⟨x, e⟩ := isL_1 c
  have hx := hb x e
  obtain ⟨g1, g2, g3⟩ := o.2.1 x e
  have hn := h.2.1
  exact ⟨x, e, rdX_mv h (f.hai (by omega)) o.1 g2 (by omega), by unfold rdP; rw [g2]; exact m_cl (by omega), hx, o.1, g1, g3⟩
theorem stC {w w1 : mH} {a n c0 : Nat} {lt : Nat → Nat} {p : Nat} (h : rdX w a lt n) (f : mFr a (a + 1) w w1) (o : rdC w w1 a (pCh c0 lt n p)) (h0 : c0 ≠ 0) (c : ¬ isL (pCh c0 lt n p) = 0) : ∃ x, pCh c0 lt n p = .inl x ∧ rdX w1 a lt n ∧ rdP w1 a = x ∧ x ≤ n ∧ hfi w1 a 1 = hfi w a 1 ∧ hfi w1 a 2 = hfi w a 2 ∧ hfi w1 a 5 = hfi w a 5 := by
  obtain ⟨x, e⟩ := isL_1 c
  have hx := pCh_le e h0
  obtain ⟨g1, g2, g3⟩ := o.2.1 x e
  have hn := h.2.1
  exact ⟨x, e, rdX_mv h (f.hai (by omega)) o.1 g2 (by omega), by unfold rdP; rw [g2]; exact m_cl (by omega), hx, o.1, g1, g3⟩
/-- a part of the text, or the first error -/
def pSeg (k : Int32) (lt : Nat → Nat) (n p : Nat) (B : Nat → Int32) : (Nat × (Nat → Int32)) ⊕ Nat :=
  match pNum 1 1 99 lt n p with
  | .inr q => .inr q
  | .inl x => if k = 0 then .inl (x.1, addSeg B k x.2 0) else
    match pCh 58 lt n x.1 with
    | .inr q => .inr q
    | .inl p2 => match pSg 50 lt n p2 with
      | .inr q => .inr q
      | .inl y => .inl (y.1, addSeg B k x.2 y.2)
def pDis (lt : Nat → Nat) (n p : Nat) (B : Nat → Int32) : (Nat × (Nat → Int32)) ⊕ Nat :=
  match pNum 1 0 199 lt n p with
  | .inr q => .inr q
  | .inl x => match pCh 58 lt n x.1 with
    | .inr q => .inr q
    | .inl p2 => match pSg 500 lt n p2 with
      | .inr q => .inr q
      | .inl y => match pCh 42 lt n y.1 with
        | .inr q => .inr q
        | .inl p4 => match pNum 1 1 99 lt n p4 with
          | .inr q => .inr q
          | .inl z => .inl (z.1, addPus B x.2 y.2 z.2)
def rdT (w w' : mH) (a : Nat) (r : (Nat × (Nat → Int32)) ⊕ Nat) : Prop := hai w' (a + 1) = hai w (a + 1) ∧ hfi w' a 1 = hfi w a 1 ∧ (∀ x, r = .inl x → hfi w' a 2 = hfi w a 2 ∧ hfi w' a 4 = nI x.1 ∧ kRep w' (a + 2) x.2) ∧ ∀ q, r = .inr q → hfi w' a 2 = nI q
theorem rdT_bad {w w' : mH} {a q : Nat} (h0 : hai w' (a + 1) = hai w (a + 1)) (h1 : hfi w' a 1 = hfi w a 1) (h2 : hfi w' a 2 = nI q) : rdT w w' a (.inr q) := ⟨h0, h1, fun x hx => (by cases hx), fun y hy => (by cases hy; exact h2)⟩
theorem rdT_good {w w' : mH} {a : Nat} {x : Nat × (Nat → Int32)} (h0 : hai w' (a + 1) = hai w (a + 1)) (h1 : hfi w' a 1 = hfi w a 1) (h2 : hfi w' a 2 = hfi w a 2) (h4 : hfi w' a 4 = nI x.1) (h : kRep w' (a + 2) x.2) : rdT w w' a (.inl x) := ⟨h0, h1, fun y hy => (by cases hy; exact ⟨h2, h4, h⟩), fun y hy => (by cases hy)⟩
theorem rX8_readSegment {G : mG} {w : mH} {a0 n : Nat} {x1 : Int32} {lt : Nat → Nat} {B : Nat → Int32} (z0 : zRea w a0) (h : rdX w a0 lt n) (hp : rdP w a0 ≤ n) (hB : kRep w (a0 + 2) B) (hr : nSg B < 8) : mC G mX8_readSegment 4 0 0 [.ref a0, .int x1] w (mP (some (.int (isL (pSeg x1 lt n (rdP w a0) B)))) (fun w' => mFr a0 (a0 + 9) w w' ∧ rdT w w' a0 (pSeg x1 lt n (rdP w a0) B))) := by
  refine mC_of (by decide +kernel) rfl (Nat.le_of_ble_eq_true rfl) rfl ?_
  refine gX8_readSegment_0 (lt := lt) (n := n) (B := B) (a0_3 := a0 + 2) z0.1 z0 (by exact h) (by have := h.2.1; omega) z0.2.2.1 z0.2.2.2.2.1 z0.2.2.2.2 (by intro w1 q1 c1 c2; obtain ⟨x1v, r1, h1, p1, b1, f1, g1, v1⟩ := stO h q1.1 q1.2 (fun x e => pNum_le e hp) c1; exact kRep_fr q1.1 (by omega) hB) (by intro w1 q1 c1 c2; obtain ⟨x1v, r1, h1, p1, b1, f1, g1, v1⟩ := stO h q1.1 q1.2 (fun x e => pNum_le e hp) c1; exact hr) (by intro w1 q1 c1 c2; obtain ⟨x1v, r1, h1, p1, b1, f1, g1, v1⟩ := stO h q1.1 q1.2 (fun x e => pNum_le e hp) c1; exact h1) (by intro w1 q1 c1 c2; obtain ⟨x1v, r1, h1, p1, b1, f1, g1, v1⟩ := stO h q1.1 q1.2 (fun x e => pNum_le e hp) c1; rfl) (by intro w1 q1 c1 c2; obtain ⟨x1v, r1, h1, p1, b1, f1, g1, v1⟩ := stO h q1.1 q1.2 (fun x e => pNum_le e hp) c1; decide) (by intro w1 q1 c1 c2 w3 q3 c3; obtain ⟨x1v, r1, h1, p1, b1, f1, g1, v1⟩ := stO h q1.1 q1.2 (fun x e => pNum_le e hp) c1; obtain ⟨x3v, r3, h3, p3, b3, f3, g3, v3⟩ := stC h1 q3.1 q3.2 (by decide) c3; exact h3) (by intro w1 q1 c1 c2 w3 q3 c3; obtain ⟨x1v, r1, h1, p1, b1, f1, g1, v1⟩ := stO h q1.1 q1.2 (fun x e => pNum_le e hp) c1; obtain ⟨x3v, r3, h3, p3, b3, f3, g3, v3⟩ := stC h1 q3.1 q3.2 (by decide) c3; omega) (by intro w1 q1 c1 c2 w3 q3 c3 w4 q4 c4; obtain ⟨x1v, r1, h1, p1, b1, f1, g1, v1⟩ := stO h q1.1 q1.2 (fun x e => pNum_le e hp) c1; obtain ⟨x3v, r3, h3, p3, b3, f3, g3, v3⟩ := stC h1 q3.1 q3.2 (by decide) c3; obtain ⟨x4v, r4, h4, p4, b4, f4, g4, v4⟩ := stO h3 q4.1 q4.2 (fun x e => pSg_le e (by rw [p3]; exact b3)) c4; exact kRep_fr q4.1 (by omega) (kRep_fr q3.1 (by omega) (kRep_fr q1.1 (by omega) hB))) (by intro w1 q1 c1 c2 w3 q3 c3 w4 q4 c4; obtain ⟨x1v, r1, h1, p1, b1, f1, g1, v1⟩ := stO h q1.1 q1.2 (fun x e => pNum_le e hp) c1; obtain ⟨x3v, r3, h3, p3, b3, f3, g3, v3⟩ := stC h1 q3.1 q3.2 (by decide) c3; obtain ⟨x4v, r4, h4, p4, b4, f4, g4, v4⟩ := stO h3 q4.1 q4.2 (fun x e => pSg_le e (by rw [p3]; exact b3)) c4; exact hr) ?_ ?_ ?_ ?_ ?_
  · intro w1 q1 c1 c2 w2 q2
    obtain ⟨x1v, r1, h1, p1, b1, f1, g1, v1⟩ := stO h q1.1 q1.2 (fun x e => pNum_le e hp) c1
    have e : pSeg x1 lt n (rdP w a0) B = .inl (x1v.1, addSeg B x1 x1v.2 0) := by unfold pSeg; simp only [r1, c2, if_true]
    rw [e]
    refine mP_of ⟨(q1.1.wide (by omega) (by omega)).tr (q2.1.wide (by omega) (by omega)), rdT_good (by rw [q2.1.hai (by omega), q1.1.hai (by omega)]) ?_ ?_ ?_ ?_⟩
    · rw [q2.1.hfi (by omega)]; exact f1
    · rw [q2.1.hfi (by omega)]; exact g1
    · rw [q2.1.hfi (by omega), h1.2.2.2.1, ← p1]
    · rw [← v1]; exact q2.2
  · intro w1 q1 c1 c2 w3 q3 c3
    obtain ⟨x1v, r1, h1, p1, b1, f1, g1, v1⟩ := stO h q1.1 q1.2 (fun x e => pNum_le e hp) c1
    obtain ⟨y3, r3⟩ := isL_0 c3
    have e : pSeg x1 lt n (rdP w a0) B = .inr y3 := by unfold pSeg; rw [p1] at r3; simp only [r1, if_neg c2, show pCh 58 lt n x1v.1 = .inr y3 from r3]
    rw [e]
    exact mP_of ⟨(q1.1.wide (by omega) (by omega)).tr (q3.1.wide (by omega) (by omega)), rdT_bad (by rw [q3.1.hai (by omega), q1.1.hai (by omega)]) (by rw [q3.2.1]; exact f1) (q3.2.2.2 _ r3)⟩
  · intro w1 q1 c1 c2 w3 q3 c3 w4 q4 c4 w5 q5
    obtain ⟨x1v, r1, h1, p1, b1, f1, g1, v1⟩ := stO h q1.1 q1.2 (fun x e => pNum_le e hp) c1
    obtain ⟨x3v, r3, h3, p3, b3, f3, g3, v3⟩ := stC h1 q3.1 q3.2 (by decide) c3
    obtain ⟨x4v, r4, h4, p4, b4, f4, g4, v4⟩ := stO h3 q4.1 q4.2 (fun x e => pSg_le e (by rw [p3]; exact b3)) c4
    have e : pSeg x1 lt n (rdP w a0) B = .inl (x4v.1, addSeg B x1 x1v.2 x4v.2) := by unfold pSeg; rw [p1] at r3; rw [p3] at r4; simp only [r1, if_neg c2, show pCh 58 lt n x1v.1 = .inl x3v from r3, r4]
    rw [e]
    refine mP_of ⟨(((q1.1.wide (by omega) (by omega)).tr (q3.1.wide (by omega) (by omega))).tr (q4.1.wide (by omega) (by omega))).tr (q5.1.wide (by omega) (by omega)), rdT_good (by rw [q5.1.hai (by omega), q4.1.hai (by omega), q3.1.hai (by omega), q1.1.hai (by omega)]) ?_ ?_ ?_ ?_⟩
    · rw [q5.1.hfi (by omega), f4, f3, f1]
    · rw [q5.1.hfi (by omega), g4, g3, g1]
    · rw [q5.1.hfi (by omega), h4.2.2.2.1, ← p4]
    · have := q5.2
      rw [v1, v4] at this
      exact this
  · intro w1 q1 c1 c2 w3 q3 c3 w4 q4 c4
    obtain ⟨x1v, r1, h1, p1, b1, f1, g1, v1⟩ := stO h q1.1 q1.2 (fun x e => pNum_le e hp) c1
    obtain ⟨x3v, r3, h3, p3, b3, f3, g3, v3⟩ := stC h1 q3.1 q3.2 (by decide) c3
    obtain ⟨y4, r4⟩ := isL_0 c4
    have e : pSeg x1 lt n (rdP w a0) B = .inr y4 := by unfold pSeg; rw [p1] at r3; rw [p3] at r4; simp only [r1, if_neg c2, show pCh 58 lt n x1v.1 = .inl x3v from r3, r4]
    rw [e]
    exact mP_of ⟨((q1.1.wide (by omega) (by omega)).tr (q3.1.wide (by omega) (by omega))).tr (q4.1.wide (by omega) (by omega)), rdT_bad (by rw [q4.1.hai (by omega), q3.1.hai (by omega), q1.1.hai (by omega)]) (by rw [q4.2.1, f3, f1]) (q4.2.2.2 _ r4)⟩
  · intro w1 q1 c1
    obtain ⟨y1, r1⟩ := isL_0 c1
    have e : pSeg x1 lt n (rdP w a0) B = .inr y1 := by unfold pSeg; simp only [r1]
    rw [e]
    exact mP_of ⟨q1.1.wide (by omega) (by omega), rdT_bad (by rw [q1.1.hai (by omega)]) q1.2.1 (q1.2.2.2 _ r1)⟩
theorem rX8_readDisturbance {G : mG} {w : mH} {a0 n : Nat} {lt : Nat → Nat} {B : Nat → Int32} (z0 : zRea w a0) (h : rdX w a0 lt n) (hp : rdP w a0 ≤ n) (hB : kRep w (a0 + 2) B) (hr : nPs B < 4) : mC G mX8_readDisturbance 4 0 0 [.ref a0] w (mP (some (.int (isL (pDis lt n (rdP w a0) B)))) (fun w' => mFr a0 (a0 + 9) w w' ∧ rdT w w' a0 (pDis lt n (rdP w a0) B))) := by
  refine mC_of (by decide +kernel) rfl (Nat.le_of_ble_eq_true rfl) rfl ?_
  refine gX8_readDisturbance_0 (lt := lt) (n := n) (B := B) (a0_3 := a0 + 2) z0.1 z0 (by exact h) (by have := h.2.1; omega) (by intro w1 q1 c1; obtain ⟨x1v, r1, h1, p1, b1, f1, g1, v1⟩ := stO h q1.1 q1.2 (fun x e => pNum_le e hp) c1; exact h1) (by intro w1 q1 c1; obtain ⟨x1v, r1, h1, p1, b1, f1, g1, v1⟩ := stO h q1.1 q1.2 (fun x e => pNum_le e hp) c1; rfl) (by intro w1 q1 c1; obtain ⟨x1v, r1, h1, p1, b1, f1, g1, v1⟩ := stO h q1.1 q1.2 (fun x e => pNum_le e hp) c1; decide) (by intro w1 q1 c1 w2 q2 c2; obtain ⟨x1v, r1, h1, p1, b1, f1, g1, v1⟩ := stO h q1.1 q1.2 (fun x e => pNum_le e hp) c1; obtain ⟨x2v, r2, h2, p2, b2, f2, g2, v2⟩ := stC h1 q2.1 q2.2 (by decide) c2; exact h2) (by intro w1 q1 c1 w2 q2 c2; obtain ⟨x1v, r1, h1, p1, b1, f1, g1, v1⟩ := stO h q1.1 q1.2 (fun x e => pNum_le e hp) c1; obtain ⟨x2v, r2, h2, p2, b2, f2, g2, v2⟩ := stC h1 q2.1 q2.2 (by decide) c2; omega) (by intro w1 q1 c1 w2 q2 c2 w3 q3 c3; obtain ⟨x1v, r1, h1, p1, b1, f1, g1, v1⟩ := stO h q1.1 q1.2 (fun x e => pNum_le e hp) c1; obtain ⟨x2v, r2, h2, p2, b2, f2, g2, v2⟩ := stC h1 q2.1 q2.2 (by decide) c2; obtain ⟨x3v, r3, h3, p3, b3, f3, g3, v3⟩ := stO h2 q3.1 q3.2 (fun x e => pSg_le e (by rw [p2]; exact b2)) c3; exact h3) (by intro w1 q1 c1 w2 q2 c2 w3 q3 c3; obtain ⟨x1v, r1, h1, p1, b1, f1, g1, v1⟩ := stO h q1.1 q1.2 (fun x e => pNum_le e hp) c1; obtain ⟨x2v, r2, h2, p2, b2, f2, g2, v2⟩ := stC h1 q2.1 q2.2 (by decide) c2; obtain ⟨x3v, r3, h3, p3, b3, f3, g3, v3⟩ := stO h2 q3.1 q3.2 (fun x e => pSg_le e (by rw [p2]; exact b2)) c3; rfl) (by intro w1 q1 c1 w2 q2 c2 w3 q3 c3; obtain ⟨x1v, r1, h1, p1, b1, f1, g1, v1⟩ := stO h q1.1 q1.2 (fun x e => pNum_le e hp) c1; obtain ⟨x2v, r2, h2, p2, b2, f2, g2, v2⟩ := stC h1 q2.1 q2.2 (by decide) c2; obtain ⟨x3v, r3, h3, p3, b3, f3, g3, v3⟩ := stO h2 q3.1 q3.2 (fun x e => pSg_le e (by rw [p2]; exact b2)) c3; decide) (by intro w1 q1 c1 w2 q2 c2 w3 q3 c3 w4 q4 c4; obtain ⟨x1v, r1, h1, p1, b1, f1, g1, v1⟩ := stO h q1.1 q1.2 (fun x e => pNum_le e hp) c1; obtain ⟨x2v, r2, h2, p2, b2, f2, g2, v2⟩ := stC h1 q2.1 q2.2 (by decide) c2; obtain ⟨x3v, r3, h3, p3, b3, f3, g3, v3⟩ := stO h2 q3.1 q3.2 (fun x e => pSg_le e (by rw [p2]; exact b2)) c3; obtain ⟨x4v, r4, h4, p4, b4, f4, g4, v4⟩ := stC h3 q4.1 q4.2 (by decide) c4; exact h4) (by intro w1 q1 c1 w2 q2 c2 w3 q3 c3 w4 q4 c4; obtain ⟨x1v, r1, h1, p1, b1, f1, g1, v1⟩ := stO h q1.1 q1.2 (fun x e => pNum_le e hp) c1; obtain ⟨x2v, r2, h2, p2, b2, f2, g2, v2⟩ := stC h1 q2.1 q2.2 (by decide) c2; obtain ⟨x3v, r3, h3, p3, b3, f3, g3, v3⟩ := stO h2 q3.1 q3.2 (fun x e => pSg_le e (by rw [p2]; exact b2)) c3; obtain ⟨x4v, r4, h4, p4, b4, f4, g4, v4⟩ := stC h3 q4.1 q4.2 (by decide) c4; have := h.2.1; omega) z0.2.2.1 z0.2.2.2.2.1 z0.2.2.2.2 (by intro w1 q1 c1 w2 q2 c2 w3 q3 c3 w4 q4 c4 w5 q5 c5; obtain ⟨x1v, r1, h1, p1, b1, f1, g1, v1⟩ := stO h q1.1 q1.2 (fun x e => pNum_le e hp) c1; obtain ⟨x2v, r2, h2, p2, b2, f2, g2, v2⟩ := stC h1 q2.1 q2.2 (by decide) c2; obtain ⟨x3v, r3, h3, p3, b3, f3, g3, v3⟩ := stO h2 q3.1 q3.2 (fun x e => pSg_le e (by rw [p2]; exact b2)) c3; obtain ⟨x4v, r4, h4, p4, b4, f4, g4, v4⟩ := stC h3 q4.1 q4.2 (by decide) c4; obtain ⟨x5v, r5, h5, p5, b5, f5, g5, v5⟩ := stO h4 q5.1 q5.2 (fun x e => pNum_le e (by rw [p4]; exact b4)) c5; exact kRep_fr q5.1 (by omega) (kRep_fr q4.1 (by omega) (kRep_fr q3.1 (by omega) (kRep_fr q2.1 (by omega) (kRep_fr q1.1 (by omega) hB))))) (by intro w1 q1 c1 w2 q2 c2 w3 q3 c3 w4 q4 c4 w5 q5 c5; obtain ⟨x1v, r1, h1, p1, b1, f1, g1, v1⟩ := stO h q1.1 q1.2 (fun x e => pNum_le e hp) c1; obtain ⟨x2v, r2, h2, p2, b2, f2, g2, v2⟩ := stC h1 q2.1 q2.2 (by decide) c2; obtain ⟨x3v, r3, h3, p3, b3, f3, g3, v3⟩ := stO h2 q3.1 q3.2 (fun x e => pSg_le e (by rw [p2]; exact b2)) c3; obtain ⟨x4v, r4, h4, p4, b4, f4, g4, v4⟩ := stC h3 q4.1 q4.2 (by decide) c4; obtain ⟨x5v, r5, h5, p5, b5, f5, g5, v5⟩ := stO h4 q5.1 q5.2 (fun x e => pNum_le e (by rw [p4]; exact b4)) c5; exact hr) ?_ ?_ ?_ ?_ ?_ ?_
  · intro w1 q1 c1 w2 q2 c2
    obtain ⟨x1v, r1, h1, p1, b1, f1, g1, v1⟩ := stO h q1.1 q1.2 (fun x e => pNum_le e hp) c1
    obtain ⟨y2, r2⟩ := isL_0 c2
    have e : pDis lt n (rdP w a0) B = .inr y2 := by unfold pDis; rw [p1] at r2; simp only [r1, show pCh 58 lt n x1v.1 = .inr y2 from r2]
    rw [e]
    exact mP_of ⟨((q1.1.wide (by omega) (by omega)).tr (q2.1.wide (by omega) (by omega))), rdT_bad (by rw [q2.1.hai (by omega), q1.1.hai (by omega)]) (by rw [q2.2.1, f1]) (q2.2.2.2 _ r2)⟩
  · intro w1 q1 c1 w2 q2 c2 w3 q3 c3 w4 q4 c4
    obtain ⟨x1v, r1, h1, p1, b1, f1, g1, v1⟩ := stO h q1.1 q1.2 (fun x e => pNum_le e hp) c1
    obtain ⟨x2v, r2, h2, p2, b2, f2, g2, v2⟩ := stC h1 q2.1 q2.2 (by decide) c2
    obtain ⟨x3v, r3, h3, p3, b3, f3, g3, v3⟩ := stO h2 q3.1 q3.2 (fun x e => pSg_le e (by rw [p2]; exact b2)) c3
    obtain ⟨y4, r4⟩ := isL_0 c4
    have e : pDis lt n (rdP w a0) B = .inr y4 := by unfold pDis; rw [p1] at r2; rw [p2] at r3; rw [p3] at r4; simp only [r1, show pCh 58 lt n x1v.1 = .inl x2v from r2, r3, show pCh 42 lt n x3v.1 = .inr y4 from r4]
    rw [e]
    exact mP_of ⟨((((q1.1.wide (by omega) (by omega)).tr (q2.1.wide (by omega) (by omega))).tr (q3.1.wide (by omega) (by omega))).tr (q4.1.wide (by omega) (by omega))), rdT_bad (by rw [q4.1.hai (by omega), q3.1.hai (by omega), q2.1.hai (by omega), q1.1.hai (by omega)]) (by rw [q4.2.1, f3, f2, f1]) (q4.2.2.2 _ r4)⟩
  · intro w1 q1 c1 w2 q2 c2 w3 q3 c3 w4 q4 c4 w5 q5 c5 w6 q6
    obtain ⟨x1v, r1, h1, p1, b1, f1, g1, v1⟩ := stO h q1.1 q1.2 (fun x e => pNum_le e hp) c1
    obtain ⟨x2v, r2, h2, p2, b2, f2, g2, v2⟩ := stC h1 q2.1 q2.2 (by decide) c2
    obtain ⟨x3v, r3, h3, p3, b3, f3, g3, v3⟩ := stO h2 q3.1 q3.2 (fun x e => pSg_le e (by rw [p2]; exact b2)) c3
    obtain ⟨x4v, r4, h4, p4, b4, f4, g4, v4⟩ := stC h3 q4.1 q4.2 (by decide) c4
    obtain ⟨x5v, r5, h5, p5, b5, f5, g5, v5⟩ := stO h4 q5.1 q5.2 (fun x e => pNum_le e (by rw [p4]; exact b4)) c5
    have e : pDis lt n (rdP w a0) B = .inl (x5v.1, addPus B x1v.2 x3v.2 x5v.2) := by unfold pDis; rw [p1] at r2; rw [p2] at r3; rw [p3] at r4; rw [p4] at r5; simp only [r1, show pCh 58 lt n x1v.1 = .inl x2v from r2, r3, show pCh 42 lt n x3v.1 = .inl x4v from r4, r5]
    rw [e]
    refine mP_of ⟨(((((q1.1.wide (by omega) (by omega)).tr (q2.1.wide (by omega) (by omega))).tr (q3.1.wide (by omega) (by omega))).tr (q4.1.wide (by omega) (by omega))).tr (q5.1.wide (by omega) (by omega))).tr (q6.1.wide (by omega) (by omega)), rdT_good (by rw [q6.1.hai (by omega), q5.1.hai (by omega), q4.1.hai (by omega), q3.1.hai (by omega), q2.1.hai (by omega), q1.1.hai (by omega)]) ?_ ?_ ?_ ?_⟩
    · rw [q6.1.hfi (by omega), f5, f4, f3, f2, f1]
    · rw [q6.1.hfi (by omega), g5, g4, g3, g2, g1]
    · rw [q6.1.hfi (by omega), h5.2.2.2.1, ← p5]
    · have := q6.2
      rw [v1, v3, v5] at this
      exact this
  · intro w1 q1 c1 w2 q2 c2 w3 q3 c3 w4 q4 c4 w5 q5 c5
    obtain ⟨x1v, r1, h1, p1, b1, f1, g1, v1⟩ := stO h q1.1 q1.2 (fun x e => pNum_le e hp) c1
    obtain ⟨x2v, r2, h2, p2, b2, f2, g2, v2⟩ := stC h1 q2.1 q2.2 (by decide) c2
    obtain ⟨x3v, r3, h3, p3, b3, f3, g3, v3⟩ := stO h2 q3.1 q3.2 (fun x e => pSg_le e (by rw [p2]; exact b2)) c3
    obtain ⟨x4v, r4, h4, p4, b4, f4, g4, v4⟩ := stC h3 q4.1 q4.2 (by decide) c4
    obtain ⟨y5, r5⟩ := isL_0 c5
    have e : pDis lt n (rdP w a0) B = .inr y5 := by unfold pDis; rw [p1] at r2; rw [p2] at r3; rw [p3] at r4; rw [p4] at r5; simp only [r1, show pCh 58 lt n x1v.1 = .inl x2v from r2, r3, show pCh 42 lt n x3v.1 = .inl x4v from r4, r5]
    rw [e]
    exact mP_of ⟨(((((q1.1.wide (by omega) (by omega)).tr (q2.1.wide (by omega) (by omega))).tr (q3.1.wide (by omega) (by omega))).tr (q4.1.wide (by omega) (by omega))).tr (q5.1.wide (by omega) (by omega))), rdT_bad (by rw [q5.1.hai (by omega), q4.1.hai (by omega), q3.1.hai (by omega), q2.1.hai (by omega), q1.1.hai (by omega)]) (by rw [q5.2.1, f4, f3, f2, f1]) (q5.2.2.2 _ r5)⟩
  · intro w1 q1 c1 w2 q2 c2 w3 q3 c3
    obtain ⟨x1v, r1, h1, p1, b1, f1, g1, v1⟩ := stO h q1.1 q1.2 (fun x e => pNum_le e hp) c1
    obtain ⟨x2v, r2, h2, p2, b2, f2, g2, v2⟩ := stC h1 q2.1 q2.2 (by decide) c2
    obtain ⟨y3, r3⟩ := isL_0 c3
    have e : pDis lt n (rdP w a0) B = .inr y3 := by unfold pDis; rw [p1] at r2; rw [p2] at r3; simp only [r1, show pCh 58 lt n x1v.1 = .inl x2v from r2, r3]
    rw [e]
    exact mP_of ⟨(((q1.1.wide (by omega) (by omega)).tr (q2.1.wide (by omega) (by omega))).tr (q3.1.wide (by omega) (by omega))), rdT_bad (by rw [q3.1.hai (by omega), q2.1.hai (by omega), q1.1.hai (by omega)]) (by rw [q3.2.1, f2, f1]) (q3.2.2.2 _ r3)⟩
  · intro w1 q1 c1
    obtain ⟨y1, r1⟩ := isL_0 c1
    have e : pDis lt n (rdP w a0) B = .inr y1 := by unfold pDis; simp only [r1]
    rw [e]
    exact mP_of ⟨(q1.1.wide (by omega) (by omega)), rdT_bad (by rw [q1.1.hai (by omega)]) (by rw [q1.2.1]) (q1.2.2.2 _ r1)⟩
def vX8_kindOf (x0 : Int32) : Int32 := (if x0 = 98 then 1 else (if x0 = 112 then 3 else (if x0 = 114 then 2 else (if x0 = 115 then 0 else (-1)))))
set_option maxHeartbeats 4000000 in
set_option maxRecDepth 100000 in
theorem qX8_kindOf {G : mG} {w : mH} {x0 : Int32}  : mC G mX8_kindOf 1 0 0 [.int x0] w (mEq (.inl (some (.int (vX8_kindOf x0)))) w) := by
  refine mC_of (by decide +kernel) rfl (Nat.le_of_ble_eq_true rfl) rfl ?_
  refine mW_iload_n (j := 0) dX8_kindOf_0 rfl rfl ?_
  by_cases c1 : x0 = 98
  · refine mW_lookup (off := 45) (tgt := 46) dX8_kindOf_1 (by decide) (by rw [c1]; decide) (by decide) ?_
    refine mW_iconst (v := 1) dX8_kindOf_46 (by decide) ?_
    exact mW_iret dX8_kindOf_47 rfl (⟨by first | with_reducible rfl | (simp only [vX8_kindOf, if_pos c1]; done) | rfl, by first | with_reducible rfl | (simp only [vX8_kindOf, if_pos c1]; done) | rfl⟩)
  by_cases c2 : x0 = 112
  · refine mW_lookup (off := 49) (tgt := 50) dX8_kindOf_1 (by decide) (by rw [c2]; decide) (by decide) ?_
    refine mW_iconst (v := 3) dX8_kindOf_50 (by decide) ?_
    exact mW_iret dX8_kindOf_51 rfl (⟨by first | with_reducible rfl | (simp only [vX8_kindOf, if_neg c1, if_pos c2]; done) | rfl, by first | with_reducible rfl | (simp only [vX8_kindOf, if_neg c1, if_pos c2]; done) | rfl⟩)
  by_cases c3 : x0 = 114
  · refine mW_lookup (off := 47) (tgt := 48) dX8_kindOf_1 (by decide) (by rw [c3]; decide) (by decide) ?_
    refine mW_iconst (v := 2) dX8_kindOf_48 (by decide) ?_
    exact mW_iret dX8_kindOf_49 rfl (⟨by first | with_reducible rfl | (simp only [vX8_kindOf, if_neg c1, if_neg c2, if_pos c3]; done) | rfl, by first | with_reducible rfl | (simp only [vX8_kindOf, if_neg c1, if_neg c2, if_pos c3]; done) | rfl⟩)
  by_cases c4 : x0 = 115
  · refine mW_lookup (off := 43) (tgt := 44) dX8_kindOf_1 (by decide) (by rw [c4]; decide) (by decide) ?_
    refine mW_iconst (v := 0) dX8_kindOf_44 (by decide) ?_
    exact mW_iret dX8_kindOf_45 rfl (⟨by first | with_reducible rfl | (simp only [vX8_kindOf, if_neg c1, if_neg c2, if_neg c3, if_pos c4]; done) | rfl, by first | with_reducible rfl | (simp only [vX8_kindOf, if_neg c1, if_neg c2, if_neg c3, if_pos c4]; done) | rfl⟩)
  refine mW_lookup (off := 51) (tgt := 52) dX8_kindOf_1 (by decide) (by show Op.lookupswitch.offset [(98, 45), (112, 49), (114, 47), (115, 43)] (51) _ = _; rw [Op.lookupswitch.offset_cons, if_neg (fun q => c1 (m_ti (k := 98) (by decide) q.symm)), Op.lookupswitch.offset_cons, if_neg (fun q => c2 (m_ti (k := 112) (by decide) q.symm)), Op.lookupswitch.offset_cons, if_neg (fun q => c3 (m_ti (k := 114) (by decide) q.symm)), Op.lookupswitch.offset_cons, if_neg (fun q => c4 (m_ti (k := 115) (by decide) q.symm))]; rfl) (by decide) ?_
  refine mW_iconst (v := (-1)) dX8_kindOf_52 (by decide) ?_
  exact mW_iret dX8_kindOf_53 rfl (⟨by first | with_reducible rfl | (simp only [vX8_kindOf, if_neg c1, if_neg c2, if_neg c3, if_neg c4]; done) | rfl, by first | with_reducible rfl | (simp only [vX8_kindOf, if_neg c1, if_neg c2, if_neg c3, if_neg c4]; done) | rfl⟩)
abbrev mX8_readPart : mM := (yX8_readPart, cX8_readPart, 2, (some .boolean), [])
theorem u983 : (Cond.code ⟨"LineFollowerBench$TrackReader", "kindOf", "(C)I"⟩ prog_10_method_7_code 1 (some .int) : Cond) ∈ mTs := mTs_in 983 (by decide +kernel) (by decide +kernel)
theorem co_X8_kindOf : mCode mX8_kindOf := ⟨u983, u76, by decide⟩
theorem u981 : (Cond.methodLink "LineFollowerBench$TrackReader" 58 ⟨"LineFollowerBench$TrackReader", "kindOf", "(C)I"⟩ : Cond) ∈ mTs := mTs_in 981 (by decide +kernel) (by decide +kernel)
theorem u982 : (Cond.static ⟨"LineFollowerBench$TrackReader", "kindOf", "(C)I"⟩ : Cond) ∈ mTs := mTs_in 982 (by decide +kernel) (by decide +kernel)
theorem l_X8_58 : mLinkS "LineFollowerBench$TrackReader" 58 1 mX8_kindOf := ⟨⟨by decide, by decide, by decide +kernel⟩, co_X8_kindOf, u981, u982⟩
theorem u987 : (Cond.code ⟨"LineFollowerBench$Track", "hasRoomFor", "(I)Z"⟩ prog_9_method_3_code 2 (some .boolean) : Cond) ∈ mTs := mTs_in 987 (by decide +kernel) (by decide +kernel)
theorem co_X7_hasRoomFor : mCode mX7_hasRoomFor := ⟨u987, u74, by decide⟩
theorem u984 : (Cond.methodLink "LineFollowerBench$TrackReader" 62 ⟨"LineFollowerBench$Track", "hasRoomFor", "(I)Z"⟩ : Cond) ∈ mTs := mTs_in 984 (by decide +kernel) (by decide +kernel)
theorem u985 : (Cond.instanceMethod ⟨"LineFollowerBench$Track", "hasRoomFor", "(I)Z"⟩ : Cond) ∈ mTs := mTs_in 985 (by decide +kernel) (by decide +kernel)
theorem u986 : (Cond.selects "LineFollowerBench$Track" ⟨"LineFollowerBench$Track", "hasRoomFor", "(I)Z"⟩ ⟨"LineFollowerBench$Track", "hasRoomFor", "(I)Z"⟩ : Cond) ∈ mTs := mTs_in 986 (by decide +kernel) (by decide +kernel)
theorem l_X8_62 : mLinkV "LineFollowerBench$TrackReader" 62 1 mX7_hasRoomFor := ⟨⟨by decide, by decide, by decide +kernel⟩, co_X7_hasRoomFor, u984, u985, u986⟩
theorem u1018 : (Cond.code ⟨"LineFollowerBench$TrackReader", "readSegment", "(I)Z"⟩ prog_10_method_8_code 4 (some .boolean) : Cond) ∈ mTs := mTs_in 1018 (by decide +kernel) (by decide +kernel)
theorem co_X8_readSegment : mCode mX8_readSegment := ⟨u1018, u76, by decide⟩
theorem u1015 : (Cond.methodLink "LineFollowerBench$TrackReader" 68 ⟨"LineFollowerBench$TrackReader", "readSegment", "(I)Z"⟩ : Cond) ∈ mTs := mTs_in 1015 (by decide +kernel) (by decide +kernel)
theorem u1017 : (Cond.instanceMethod ⟨"LineFollowerBench$TrackReader", "readSegment", "(I)Z"⟩ : Cond) ∈ mTs := mTs_in 1017 (by decide +kernel) (by decide +kernel)
theorem u33 : (Cond.selects "LineFollowerBench$TrackReader" ⟨"LineFollowerBench$TrackReader", "readSegment", "(I)Z"⟩ ⟨"LineFollowerBench$TrackReader", "readSegment", "(I)Z"⟩ : Cond) ∈ mTs := mTs_in 33 (by decide +kernel) (by decide +kernel)
theorem l_X8_68 : mLinkV "LineFollowerBench$TrackReader" 68 1 mX8_readSegment := ⟨⟨by decide, by decide, by decide +kernel⟩, co_X8_readSegment, u1015, u1017, u33⟩
theorem u995 : (Cond.code ⟨"LineFollowerBench$TrackReader", "readDisturbance", "()Z"⟩ prog_10_method_9_code 3 (some .boolean) : Cond) ∈ mTs := mTs_in 995 (by decide +kernel) (by decide +kernel)
theorem co_X8_readDisturbance : mCode mX8_readDisturbance := ⟨u995, u76, by decide⟩
theorem u992 : (Cond.methodLink "LineFollowerBench$TrackReader" 65 ⟨"LineFollowerBench$TrackReader", "readDisturbance", "()Z"⟩ : Cond) ∈ mTs := mTs_in 992 (by decide +kernel) (by decide +kernel)
theorem u994 : (Cond.instanceMethod ⟨"LineFollowerBench$TrackReader", "readDisturbance", "()Z"⟩ : Cond) ∈ mTs := mTs_in 994 (by decide +kernel) (by decide +kernel)
theorem u29 : (Cond.selects "LineFollowerBench$TrackReader" ⟨"LineFollowerBench$TrackReader", "readDisturbance", "()Z"⟩ ⟨"LineFollowerBench$TrackReader", "readDisturbance", "()Z"⟩ : Cond) ∈ mTs := mTs_in 29 (by decide +kernel) (by decide +kernel)
theorem l_X8_65 : mLinkV "LineFollowerBench$TrackReader" 65 0 mX8_readDisturbance := ⟨⟨by decide, by decide, by decide +kernel⟩, co_X8_readDisturbance, u992, u994, u29⟩
set_option maxHeartbeats 4000000 in
set_option maxRecDepth 100000 in
theorem gX8_readPart_0 {G : mG} {w : mH} {Φ : mF} {a0 : Nat} {lt : Nat → Nat} {n : Nat} {B : Nat → Int32} {a0_3 : Nat} (h1 : hk w a0 = (8, 0)) (h2 : zRea w a0) (s1 : rdX w a0 lt n) (h3 : hfr w a0 3 = some a0_3) (h4 : hk w a0_3 = (7, 0)) (s2 : (¬ ((vX8_kindOf (nI (hc lt n (hfi w a0 4).toNatClampNeg))) < 0)) → (¬ ((vX7_hasRoomFor w a0_3 (vX8_kindOf (nI (hc lt n (hfi w a0 4).toNatClampNeg)))) = 0)) → ∀ w2 : mH, (w2 = sfi w a0 4 ((hfi w a0 4) + 1)) → (¬ ((vX8_kindOf (nI (hc lt n (hfi w a0 4).toNatClampNeg))) = 3)) → rdX w2 a0 lt n) (s3 : (¬ ((vX8_kindOf (nI (hc lt n (hfi w a0 4).toNatClampNeg))) < 0)) → (¬ ((vX7_hasRoomFor w a0_3 (vX8_kindOf (nI (hc lt n (hfi w a0 4).toNatClampNeg)))) = 0)) → ∀ w2 : mH, (w2 = sfi w a0 4 ((hfi w a0 4) + 1)) → (¬ ((vX8_kindOf (nI (hc lt n (hfi w a0 4).toNatClampNeg))) = 3)) → rdP w2 a0 ≤ n) (s4 : (¬ ((vX8_kindOf (nI (hc lt n (hfi w a0 4).toNatClampNeg))) < 0)) → (¬ ((vX7_hasRoomFor w a0_3 (vX8_kindOf (nI (hc lt n (hfi w a0 4).toNatClampNeg)))) = 0)) → ∀ w2 : mH, (w2 = sfi w a0 4 ((hfi w a0 4) + 1)) → (¬ ((vX8_kindOf (nI (hc lt n (hfi w a0 4).toNatClampNeg))) = 3)) → kRep w2 (a0 + 2) B) (s5 : (¬ ((vX8_kindOf (nI (hc lt n (hfi w a0 4).toNatClampNeg))) < 0)) → (¬ ((vX7_hasRoomFor w a0_3 (vX8_kindOf (nI (hc lt n (hfi w a0 4).toNatClampNeg)))) = 0)) → ∀ w2 : mH, (w2 = sfi w a0 4 ((hfi w a0 4) + 1)) → (¬ ((vX8_kindOf (nI (hc lt n (hfi w a0 4).toNatClampNeg))) = 3)) → nSg B < 8) (s6 : (¬ ((vX8_kindOf (nI (hc lt n (hfi w a0 4).toNatClampNeg))) < 0)) → (¬ ((vX7_hasRoomFor w a0_3 (vX8_kindOf (nI (hc lt n (hfi w a0 4).toNatClampNeg)))) = 0)) → ∀ w2 : mH, (w2 = sfi w a0 4 ((hfi w a0 4) + 1)) → (¬ ((vX8_kindOf (nI (hc lt n (hfi w a0 4).toNatClampNeg))) = 3)) → ∀ w3 : mH, (mFr a0 (a0 + 9) w2 w3 ∧ rdT w2 w3 a0 (pSeg (vX8_kindOf (nI (hc lt n (hfi w a0 4).toNatClampNeg))) lt n (rdP w2 a0) B)) → narrow .boolean (.int (isL (pSeg (vX8_kindOf (nI (hc lt n (hfi w a0 4).toNatClampNeg))) lt n (rdP w2 a0) B))) = .int (isL (pSeg (vX8_kindOf (nI (hc lt n (hfi w a0 4).toNatClampNeg))) lt n (rdP w2 a0) B))) (s7 : (¬ ((vX8_kindOf (nI (hc lt n (hfi w a0 4).toNatClampNeg))) < 0)) → (¬ ((vX7_hasRoomFor w a0_3 (vX8_kindOf (nI (hc lt n (hfi w a0 4).toNatClampNeg)))) = 0)) → ∀ w2 : mH, (w2 = sfi w a0 4 ((hfi w a0 4) + 1)) → ((vX8_kindOf (nI (hc lt n (hfi w a0 4).toNatClampNeg))) = 3) → rdX w2 a0 lt n) (s8 : (¬ ((vX8_kindOf (nI (hc lt n (hfi w a0 4).toNatClampNeg))) < 0)) → (¬ ((vX7_hasRoomFor w a0_3 (vX8_kindOf (nI (hc lt n (hfi w a0 4).toNatClampNeg)))) = 0)) → ∀ w2 : mH, (w2 = sfi w a0 4 ((hfi w a0 4) + 1)) → ((vX8_kindOf (nI (hc lt n (hfi w a0 4).toNatClampNeg))) = 3) → rdP w2 a0 ≤ n) (s9 : (¬ ((vX8_kindOf (nI (hc lt n (hfi w a0 4).toNatClampNeg))) < 0)) → (¬ ((vX7_hasRoomFor w a0_3 (vX8_kindOf (nI (hc lt n (hfi w a0 4).toNatClampNeg)))) = 0)) → ∀ w2 : mH, (w2 = sfi w a0 4 ((hfi w a0 4) + 1)) → ((vX8_kindOf (nI (hc lt n (hfi w a0 4).toNatClampNeg))) = 3) → kRep w2 (a0 + 2) B) (s10 : (¬ ((vX8_kindOf (nI (hc lt n (hfi w a0 4).toNatClampNeg))) < 0)) → (¬ ((vX7_hasRoomFor w a0_3 (vX8_kindOf (nI (hc lt n (hfi w a0 4).toNatClampNeg)))) = 0)) → ∀ w2 : mH, (w2 = sfi w a0 4 ((hfi w a0 4) + 1)) → ((vX8_kindOf (nI (hc lt n (hfi w a0 4).toNatClampNeg))) = 3) → nPs B < 4) (s11 : (¬ ((vX8_kindOf (nI (hc lt n (hfi w a0 4).toNatClampNeg))) < 0)) → (¬ ((vX7_hasRoomFor w a0_3 (vX8_kindOf (nI (hc lt n (hfi w a0 4).toNatClampNeg)))) = 0)) → ∀ w2 : mH, (w2 = sfi w a0 4 ((hfi w a0 4) + 1)) → ((vX8_kindOf (nI (hc lt n (hfi w a0 4).toNatClampNeg))) = 3) → ∀ w4 : mH, (mFr a0 (a0 + 9) w2 w4 ∧ rdT w2 w4 a0 (pDis lt n (rdP w2 a0) B)) → narrow .boolean (.int (isL (pDis lt n (rdP w2 a0) B))) = .int (isL (pDis lt n (rdP w2 a0) B))) (k1 : ((vX8_kindOf (nI (hc lt n (hfi w a0 4).toNatClampNeg))) < 0) → ∀ w1 : mH, (w1 = sX8_failAt w a0 (hfi w a0 4)) → Φ (.inl (some (.int 0))) w1) (k2 : (¬ ((vX8_kindOf (nI (hc lt n (hfi w a0 4).toNatClampNeg))) < 0)) → (¬ ((vX7_hasRoomFor w a0_3 (vX8_kindOf (nI (hc lt n (hfi w a0 4).toNatClampNeg)))) = 0)) → ∀ w2 : mH, (w2 = sfi w a0 4 ((hfi w a0 4) + 1)) → (¬ ((vX8_kindOf (nI (hc lt n (hfi w a0 4).toNatClampNeg))) = 3)) → ∀ w3 : mH, (mFr a0 (a0 + 9) w2 w3 ∧ rdT w2 w3 a0 (pSeg (vX8_kindOf (nI (hc lt n (hfi w a0 4).toNatClampNeg))) lt n (rdP w2 a0) B)) → Φ (.inl (some (.int (isL (pSeg (vX8_kindOf (nI (hc lt n (hfi w a0 4).toNatClampNeg))) lt n (rdP w2 a0) B))))) w3) (k3 : (¬ ((vX8_kindOf (nI (hc lt n (hfi w a0 4).toNatClampNeg))) < 0)) → (¬ ((vX7_hasRoomFor w a0_3 (vX8_kindOf (nI (hc lt n (hfi w a0 4).toNatClampNeg)))) = 0)) → ∀ w2 : mH, (w2 = sfi w a0 4 ((hfi w a0 4) + 1)) → ((vX8_kindOf (nI (hc lt n (hfi w a0 4).toNatClampNeg))) = 3) → ∀ w4 : mH, (mFr a0 (a0 + 9) w2 w4 ∧ rdT w2 w4 a0 (pDis lt n (rdP w2 a0) B)) → Φ (.inl (some (.int (isL (pDis lt n (rdP w2 a0) B))))) w4) (k4 : (¬ ((vX8_kindOf (nI (hc lt n (hfi w a0 4).toNatClampNeg))) < 0)) → ((vX7_hasRoomFor w a0_3 (vX8_kindOf (nI (hc lt n (hfi w a0 4).toNatClampNeg)))) = 0) → ∀ w5 : mH, (w5 = sX8_failAt w a0 (hfi w a0 4)) → Φ (.inl (some (.int 0))) w5) : mW G mX8_readPart 5 0 0 0 [(0, .ref a0)] [] w Φ := by
  refine mW_aload_n (j := 0) dX8_readPart_0 rfl rfl ?_
  refine mW_callVe (As := []) (rest := []) (kc2 := 0) (ks2 := 0) dX8_readPart_1 l_X8_54 rfl h1 rfl (by decide) (qX8_sign' (w := w) (a0 := a0) h2 s1) (Nat.le_of_ble_eq_true rfl) (by decide) rfl rfl ?_
  refine mW_callSe (As := [.int (nI (hc lt n (hfi w a0 4).toNatClampNeg))]) (rest := []) (kc2 := 0) (ks2 := 0) dX8_readPart_4 l_X8_58 rfl (qX8_kindOf (w := w) (x0 := (nI (hc lt n (hfi w a0 4).toNatClampNeg)))) (Nat.le_of_ble_eq_true rfl) (by decide) rfl rfl ?_
  refine mW_istore_n (lv2 := [(1, .int (vX8_kindOf (nI (hc lt n (hfi w a0 4).toNatClampNeg)))), (0, .ref a0)]) dX8_readPart_7 rfl (by decide) rfl ?_
  refine mW_iload_n (j := 0) dX8_readPart_8 rfl rfl ?_
  refine mW_if_lt (tgt := 23) dX8_readPart_9 (by decide) (fun c1 => ?_) (fun c1 => ?_)
  · refine mW_aload_n (j := 1) dX8_readPart_23 rfl rfl ?_
    refine mW_aload_n (j := 1) dX8_readPart_24 rfl rfl ?_
    refine mW_get dX8_readPart_25 f_X8_29 h1 rfl ?_
    refine mW_callVe (As := [.int (hfi w a0 4)]) (rest := []) (kc2 := 0) (ks2 := 0) dX8_readPart_28 l_X8_50 rfl h1 rfl (by decide) (qX8_failAt (w := w) (a0 := a0) (x1 := hfi w a0 4) h1) (Nat.le_of_ble_eq_true rfl) (by decide) rfl rfl ?_
    refine mW_nm (fun w1 e1 => ?_)
    exact mW_zret (ty := .boolean) dX8_readPart_31 rfl (by first | rfl | decide) (k1 c1 w1 e1)
  · refine mW_aload_n (j := 1) dX8_readPart_12 rfl rfl ?_
    refine mW_getR dX8_readPart_13 f_X8_25 h1 rfl h3 ?_
    refine mW_iload_n (j := 0) dX8_readPart_16 rfl rfl ?_
    refine mW_callVe (As := [.int (vX8_kindOf (nI (hc lt n (hfi w a0 4).toNatClampNeg)))]) (rest := []) (kc2 := 0) (ks2 := 0) dX8_readPart_17 l_X8_62 rfl h4 rfl (by decide) (qX7_hasRoomFor (w := w) (a0 := a0_3) (x1 := (vX8_kindOf (nI (hc lt n (hfi w a0 4).toNatClampNeg)))) h4) (Nat.le_of_ble_eq_true rfl) (by decide) rfl rfl ?_
    refine mW_if_ne (tgt := 32) dX8_readPart_20 (by decide) (fun c2 => ?_) (fun c2 => ?_)
    · refine mW_aload_n (j := 1) dX8_readPart_32 rfl rfl ?_
      refine mW_dup dX8_readPart_33 rfl ?_
      refine mW_get dX8_readPart_34 f_X8_29 h1 rfl ?_
      refine mW_iconst (v := 1) dX8_readPart_37 (by decide) ?_
      refine mW_iadd dX8_readPart_38 ?_
      refine mW_put (ty := .int) (w2 := sfi w a0 4 ((hfi w a0 4) + 1)) dX8_readPart_39 p_X8_29 h1 (Nat.le_of_ble_eq_true rfl) (by first | rfl | decide | (repeat' split) <;> rfl) rfl (hN_sfi _ _ _ _) (hk_sfi _ _ _ _) (mE_sfi h1 (by decide) (ob_8_4 _ _ _)) ?_
      refine mW_nm (fun w2 e2 => ?_)
      refine mW_iload_n (j := 0) dX8_readPart_42 rfl rfl ?_
      refine mW_iconst (v := 3) dX8_readPart_43 (by decide) ?_
      refine mW_icmp_ne (tgt := 54) dX8_readPart_44 (by decide) (fun c3 => ?_) (fun c3 => ?_)
      · refine mW_aload_n (j := 1) dX8_readPart_54 rfl rfl ?_
        refine mW_iload_n (j := 0) dX8_readPart_55 rfl rfl ?_
        refine mW_callV (As := [.int (vX8_kindOf (nI (hc lt n (hfi w a0 4).toNatClampNeg)))]) (rest := []) (kc2 := 0) (ks2 := 0) dX8_readPart_56 l_X8_68 rfl (s2k (S2_sfi e2) h1) rfl (by decide) (rX8_readSegment (w := w2) (a0 := a0) (x1 := (vX8_kindOf (nI (hc lt n (hfi w a0 4).toNatClampNeg)))) (zRea_s2 (S2_sfi e2) h2) (s2 c1 c2 w2 e2 c3) (s3 c1 c2 w2 e2 c3) (s4 c1 c2 w2 e2 c3) (s5 c1 c2 w2 e2 c3)) (Nat.le_of_ble_eq_true rfl) (by decide) rfl rfl mP_x (mP_k (fun w3 q1 => ?_))
        exact mW_zret (ty := .boolean) dX8_readPart_59 rfl ((s6 c1 c2 w2 e2 c3 w3 q1)) (k2 c1 c2 w2 e2 c3 w3 q1)
      · refine mW_aload_n (j := 1) dX8_readPart_47 rfl rfl ?_
        refine mW_callV (As := []) (rest := []) (kc2 := 0) (ks2 := 0) dX8_readPart_48 l_X8_65 rfl (s2k (S2_sfi e2) h1) rfl (by decide) (rX8_readDisturbance (w := w2) (a0 := a0) (zRea_s2 (S2_sfi e2) h2) (s7 c1 c2 w2 e2 c3) (s8 c1 c2 w2 e2 c3) (s9 c1 c2 w2 e2 c3) (s10 c1 c2 w2 e2 c3)) (Nat.le_of_ble_eq_true rfl) (by decide) rfl rfl mP_x (mP_k (fun w4 q2 => ?_))
        refine mW_goto (tgt := 59) dX8_readPart_51 (by decide) ?_
        exact mW_zret (ty := .boolean) dX8_readPart_59 rfl ((s11 c1 c2 w2 e2 c3 w4 q2)) (k3 c1 c2 w2 e2 c3 w4 q2)
    · refine mW_aload_n (j := 1) dX8_readPart_23 rfl rfl ?_
      refine mW_aload_n (j := 1) dX8_readPart_24 rfl rfl ?_
      refine mW_get dX8_readPart_25 f_X8_29 h1 rfl ?_
      refine mW_callVe (As := [.int (hfi w a0 4)]) (rest := []) (kc2 := 0) (ks2 := 0) dX8_readPart_28 l_X8_50 rfl h1 rfl (by decide) (qX8_failAt (w := w) (a0 := a0) (x1 := hfi w a0 4) h1) (Nat.le_of_ble_eq_true rfl) (by decide) rfl rfl ?_
      refine mW_nm (fun w5 e3 => ?_)
      exact mW_zret (ty := .boolean) dX8_readPart_31 rfl (by first | rfl | decide) (k4 c1 c2 w5 e3)
def pPart (lt : Nat → Nat) (n p : Nat) (B : Nat → Int32) : (Nat × (Nat → Int32)) ⊕ Nat :=
  if vX8_kindOf (nI (hc lt n p)) < 0 then .inr p
  else if vX8_kindOf (nI (hc lt n p)) = 3 then (if nPs B < 4 then pDis lt n (p + 1) B else .inr p)
  else (if nSg B < 8 then pSeg (vX8_kindOf (nI (hc lt n p))) lt n (p + 1) B else .inr p)
theorem kd_0 {c : Nat} (h : c = 0) : vX8_kindOf (nI c) < 0 := by subst h; decide
theorem room_v {w : mH} {a : Nat} {B : Nat → Int32} {k : Int32} (h : kRep w a B) : vX7_hasRoomFor w a k = if k = 3 then (if nPs B < 4 then 1 else 0) else (if nSg B < 8 then 1 else 0) := by
  obtain ⟨n, m, g1, g2, g3, g4, g5, g6, -⟩ := h
  have en : nSg B = n := by unfold nSg; rw [g3]; exact m_cl (by omega)
  have em : nPs B = m := by unfold nPs; rw [g5]; exact m_cl (by omega)
  have h4 : (4 : Int32) ≤ nI m ↔ 4 ≤ m := m_4 (by omega)
  have h8 : (8 : Int32) ≤ nI n ↔ 8 ≤ n := m_8 (by omega)
  unfold vX7_hasRoomFor
  rw [g4, g6, en, em]
  simp only [h4, h8]
  by_cases hk : k = 3
  · simp only [hk, if_true]
    by_cases hm : m < 4
    · rw [if_pos hm]; first | rw [if_neg (by omega)] | rw [if_pos (by omega)]
    · rw [if_neg hm]; first | rw [if_pos (by omega)] | rw [if_neg (by omega)]
  · simp only [hk, if_false]
    by_cases hm : n < 8
    · rw [if_pos hm]; first | rw [if_neg (by omega)] | rw [if_pos (by omega)]
    · rw [if_neg hm]; first | rw [if_pos (by omega)] | rw [if_neg (by omega)]
theorem room_s {w : mH} {a : Nat} {B : Nat → Int32} {k : Int32} (h : kRep w a B) (hk : ¬ k = 3) (c : ¬ vX7_hasRoomFor w a k = 0) : nSg B < 8 := by
  rw [room_v h, if_neg hk] at c
  by_cases q : nSg B < 8
  · exact q
  · rw [if_neg q] at c; exact absurd rfl c
theorem room_d {w : mH} {a : Nat} {B : Nat → Int32} {k : Int32} (h : kRep w a B) (hk : k = 3) (c : ¬ vX7_hasRoomFor w a k = 0) : nPs B < 4 := by
  rw [room_v h, if_pos hk] at c
  by_cases q : nPs B < 4
  · exact q
  · rw [if_neg q] at c; exact absurd rfl c
theorem room_n {w : mH} {a : Nat} {B : Nat → Int32} {k : Int32} (h : kRep w a B) (c : vX7_hasRoomFor w a k = 0) : (k = 3 → ¬ nPs B < 4) ∧ (¬ k = 3 → ¬ nSg B < 8) := by
  rw [room_v h] at c
  refine ⟨fun hk q => ?_, fun hk q => ?_⟩
  · rw [if_pos hk, if_pos q] at c; exact absurd c (by decide)
  · rw [if_neg hk, if_pos q] at c; exact absurd c (by decide)
theorem pt_mv {w w2 : mH} {a n : Nat} {lt : Nat → Nat} (h : rdX w a lt n) (c : ¬ vX8_kindOf (nI (hc lt n (rdP w a))) < 0) (e : w2 = sfi w a 4 (hfi w a 4 + 1)) : rdX w2 a lt n ∧ rdP w2 a = rdP w a + 1 ∧ rdP w a + 1 ≤ n := by
  have hn := h.2.1
  have hp : rdP w a < n := hc_lt (fun q => c (kd_0 q))
  have e4 : hfi w2 a 4 = nI (rdP w a + 1) := by rw [e, e_hfi_sfi, up2_at, h.2.2.2.1, nI_1]
  exact ⟨rdX_mv h (by rw [e]; rfl) (by rw [e, e_hfi_sfi, up2_k _ _ _ (by decide)]) e4 (by omega), by unfold rdP at *; rw [e4]; exact m_cl (by omega), hp⟩
theorem rX8_readPart {G : mG} {w : mH} {a0 n : Nat} {lt : Nat → Nat} {B : Nat → Int32} (z0 : zRea w a0) (h : rdX w a0 lt n) (hp : rdP w a0 ≤ n) (hB : kRep w (a0 + 2) B) : mC G mX8_readPart 5 0 0 [.ref a0] w (mP (some (.int (isL (pPart lt n (rdP w a0) B)))) (fun w' => mFr a0 (a0 + 9) w w' ∧ rdT w w' a0 (pPart lt n (rdP w a0) B))) := by
  refine mC_of (by decide +kernel) rfl (Nat.le_of_ble_eq_true rfl) rfl ?_
  refine gX8_readPart_0 (lt := lt) (n := n) (B := B) (a0_3 := a0 + 2) z0.1 z0 (by exact h) z0.2.2.1 z0.2.2.2.2.1 (by intro c1 c2 w2 e2 c3; obtain ⟨h1, p1, b1⟩ := pt_mv h c1 e2; have F : mFr a0 (a0 + 1) w w2 := (by rw [e2]; exact mFr_sfi mFr.rf (by omega) (by omega)); exact h1) (by intro c1 c2 w2 e2 c3; obtain ⟨h1, p1, b1⟩ := pt_mv h c1 e2; have F : mFr a0 (a0 + 1) w w2 := (by rw [e2]; exact mFr_sfi mFr.rf (by omega) (by omega)); omega) (by intro c1 c2 w2 e2 c3; obtain ⟨h1, p1, b1⟩ := pt_mv h c1 e2; have F : mFr a0 (a0 + 1) w w2 := (by rw [e2]; exact mFr_sfi mFr.rf (by omega) (by omega)); exact kRep_fr F (by omega) hB) (by intro c1 c2 w2 e2 c3; obtain ⟨h1, p1, b1⟩ := pt_mv h c1 e2; have F : mFr a0 (a0 + 1) w w2 := (by rw [e2]; exact mFr_sfi mFr.rf (by omega) (by omega)); exact room_s hB c3 c2) (by intro c1 c2 w2 e2 c3 w3 q1; obtain ⟨h1, p1, b1⟩ := pt_mv h c1 e2; have F : mFr a0 (a0 + 1) w w2 := (by rw [e2]; exact mFr_sfi mFr.rf (by omega) (by omega)); exact nar_L _) (by intro c1 c2 w2 e2 c3; obtain ⟨h1, p1, b1⟩ := pt_mv h c1 e2; have F : mFr a0 (a0 + 1) w w2 := (by rw [e2]; exact mFr_sfi mFr.rf (by omega) (by omega)); exact h1) (by intro c1 c2 w2 e2 c3; obtain ⟨h1, p1, b1⟩ := pt_mv h c1 e2; have F : mFr a0 (a0 + 1) w w2 := (by rw [e2]; exact mFr_sfi mFr.rf (by omega) (by omega)); omega) (by intro c1 c2 w2 e2 c3; obtain ⟨h1, p1, b1⟩ := pt_mv h c1 e2; have F : mFr a0 (a0 + 1) w w2 := (by rw [e2]; exact mFr_sfi mFr.rf (by omega) (by omega)); exact kRep_fr F (by omega) hB) (by intro c1 c2 w2 e2 c3; obtain ⟨h1, p1, b1⟩ := pt_mv h c1 e2; have F : mFr a0 (a0 + 1) w w2 := (by rw [e2]; exact mFr_sfi mFr.rf (by omega) (by omega)); exact room_d hB c3 c2) (by intro c1 c2 w2 e2 c3 w4 q2; obtain ⟨h1, p1, b1⟩ := pt_mv h c1 e2; have F : mFr a0 (a0 + 1) w w2 := (by rw [e2]; exact mFr_sfi mFr.rf (by omega) (by omega)); exact nar_L _) ?_ ?_ ?_ ?_
  · intro c1 w1 e1
    have e : pPart lt n (rdP w a0) B = .inr (rdP w a0) := by
      unfold pPart
      rw [if_pos c1]
    have e' : w1 = sfi w a0 2 (hfi w a0 4) := e1
    rw [e]
    exact mP_of ⟨by rw [e']; exact mFr_sfi mFr.rf (by omega) (by omega), rdT_bad (by rw [e']; rfl) (by rw [e', e_hfi_sfi, up2_k _ _ _ (by decide)]) (by rw [e', e_hfi_sfi, up2_at]; exact h.2.2.2.1)⟩
  · intro c1 c2 w2 e2 c3 w3 q1
    obtain ⟨h1, p1, b1⟩ := pt_mv h c1 e2
    have F : mFr a0 (a0 + 1) w w2 := (by rw [e2]; exact mFr_sfi mFr.rf (by omega) (by omega))
    rw [p1] at q1 ⊢
    have e : pPart lt n (rdP w a0) B = pSeg (vX8_kindOf (nI (hc lt n (rdP w a0)))) lt n (rdP w a0 + 1) B := by unfold pPart; simp only [if_neg c1, if_neg c3, if_pos (room_s hB c3 c2)]
    rw [e]
    refine mP_of ⟨(F.wide (by omega) (by omega)).tr q1.1, by rw [q1.2.1, e2]; rfl, by rw [q1.2.2.1, e2, e_hfi_sfi, up2_k _ _ _ (by decide)], fun x hx => ?_, q1.2.2.2.2⟩
    obtain ⟨g1, g2, g3⟩ := q1.2.2.2.1 x hx
    exact ⟨by rw [g1, e2, e_hfi_sfi, up2_k _ _ _ (by decide)], g2, g3⟩
  · intro c1 c2 w2 e2 c3 w4 q2
    obtain ⟨h1, p1, b1⟩ := pt_mv h c1 e2
    have F : mFr a0 (a0 + 1) w w2 := (by rw [e2]; exact mFr_sfi mFr.rf (by omega) (by omega))
    rw [p1] at q2 ⊢
    have e : pPart lt n (rdP w a0) B = pDis lt n (rdP w a0 + 1) B := by unfold pPart; simp only [if_neg c1, if_pos c3, if_pos (room_d hB c3 c2)]
    rw [e]
    refine mP_of ⟨(F.wide (by omega) (by omega)).tr q2.1, by rw [q2.2.1, e2]; rfl, by rw [q2.2.2.1, e2, e_hfi_sfi, up2_k _ _ _ (by decide)], fun x hx => ?_, q2.2.2.2.2⟩
    obtain ⟨g1, g2, g3⟩ := q2.2.2.2.1 x hx
    exact ⟨by rw [g1, e2, e_hfi_sfi, up2_k _ _ _ (by decide)], g2, g3⟩
  · intro c1 c2 w5 e3
    have e : pPart lt n (rdP w a0) B = .inr (rdP w a0) := by
      unfold pPart
      rw [if_neg c1]
      by_cases k3 : vX8_kindOf (nI (hc lt n (rdP w a0))) = 3
      · rw [if_pos k3, if_neg ((room_n hB c2).1 k3)]
      · rw [if_neg k3, if_neg ((room_n hB c2).2 k3)]
    have e' : w5 = sfi w a0 2 (hfi w a0 4) := e3
    rw [e]
    exact mP_of ⟨by rw [e']; exact mFr_sfi mFr.rf (by omega) (by omega), rdT_bad (by rw [e']; rfl) (by rw [e', e_hfi_sfi, up2_k _ _ _ (by decide)]) (by rw [e', e_hfi_sfi, up2_at]; exact h.2.2.2.1)⟩
abbrev mX8_readText : mM := (yX8_readText, cX8_readText, 2, (some .boolean), [])
theorem u972 : (Cond.code ⟨"LineFollowerBench$Track", "clear", "()V"⟩ prog_9_method_2_code 1 (none : Option ClassFile.FieldType) : Cond) ∈ mTs := mTs_in 972 (by decide +kernel) (by decide +kernel)
theorem co_X7_clear : mCode mX7_clear := ⟨u972, u74, by decide⟩
theorem u969 : (Cond.methodLink "LineFollowerBench$TrackReader" 39 ⟨"LineFollowerBench$Track", "clear", "()V"⟩ : Cond) ∈ mTs := mTs_in 969 (by decide +kernel) (by decide +kernel)
theorem u970 : (Cond.instanceMethod ⟨"LineFollowerBench$Track", "clear", "()V"⟩ : Cond) ∈ mTs := mTs_in 970 (by decide +kernel) (by decide +kernel)
theorem u971 : (Cond.selects "LineFollowerBench$Track" ⟨"LineFollowerBench$Track", "clear", "()V"⟩ ⟨"LineFollowerBench$Track", "clear", "()V"⟩ : Cond) ∈ mTs := mTs_in 971 (by decide +kernel) (by decide +kernel)
theorem l_X8_39 : mLinkV "LineFollowerBench$TrackReader" 39 0 mX7_clear := ⟨⟨by decide, by decide, by decide +kernel⟩, co_X7_clear, u969, u970, u971⟩
set_option maxHeartbeats 4000000 in
set_option maxRecDepth 100000 in
theorem gX8_readText_0 {G : mG} {w : mH} {Φ : mF} {a0 : Nat} {lt : Nat → Nat} {n : Nat} {B : Nat → Int32} {a0_3 : Nat} (h1 : hk w a0 = (8, 0)) (h2 : hfr w a0 3 = some a0_3) (h3 : hk w a0_3 = (7, 0)) (k1 : ∀ w1 : mH, (w1 = sfi w a0 4 0) → ∀ w2 : mH, (w2 = sfi w1 a0 2 (-1)) → ∀ w3 : mH, (w3 = sX7_clear w2 a0_3) → mW G mX8_readText 6 0 0 19 [(0, .ref a0), (1, .int 0)] [] w3 Φ) : mW G mX8_readText 6 0 0 0 [(0, .ref a0)] [] w Φ := by
  refine mW_aload_n (j := 0) dX8_readText_0 rfl rfl ?_
  refine mW_iconst (v := 0) dX8_readText_1 (by decide) ?_
  refine mW_put (ty := .int) (w2 := sfi w a0 4 0) dX8_readText_2 p_X8_29 h1 (Nat.le_of_ble_eq_true rfl) (by first | rfl | decide | (repeat' split) <;> rfl) rfl (hN_sfi _ _ _ _) (hk_sfi _ _ _ _) (mE_sfi h1 (by decide) (ob_8_4 _ _ _)) ?_
  refine mW_nm (fun w1 e1 => ?_)
  refine mW_aload_n (j := 0) dX8_readText_5 rfl rfl ?_
  refine mW_iconst (v := (-1)) dX8_readText_6 (by decide) ?_
  refine mW_put (ty := .int) (w2 := sfi w1 a0 2 (-1)) dX8_readText_7 p_X8_19 (s2k (S2_sfi e1) h1) (Nat.le_of_ble_eq_true rfl) (by first | rfl | decide | (repeat' split) <;> rfl) rfl (hN_sfi _ _ _ _) (hk_sfi _ _ _ _) (mE_sfi (s2k (S2_sfi e1) h1) (by decide) (ob_8_2 _ _ _)) ?_
  refine mW_nm (fun w2 e2 => ?_)
  refine mW_aload_n (j := 0) dX8_readText_10 rfl rfl ?_
  refine mW_getR dX8_readText_11 f_X8_25 (s2k (S2_sfi e2) (s2k (S2_sfi e1) h1)) rfl (s2r (S2_sfi e2) (s2r (S2_sfi e1) h2)) ?_
  refine mW_callVe (As := []) (rest := []) (kc2 := 0) (ks2 := 0) dX8_readText_14 l_X8_39 rfl (s2k (S2_sfi e2) (s2k (S2_sfi e1) h3)) rfl (by decide) (qX7_clear (w := w2) (a0 := a0_3) (s2k (S2_sfi e2) (s2k (S2_sfi e1) h3))) (Nat.le_of_ble_eq_true rfl) (by decide) rfl rfl ?_
  refine mW_nm (fun w3 e3 => ?_)
  refine mW_iconst (v := 0) dX8_readText_17 (by decide) ?_
  refine mW_istore_n (lv2 := [(1, .int 0), (0, .ref a0)]) dX8_readText_18 rfl (by decide) rfl ?_
  refine mW_loc [1, 0] (lv2 := [(0, .ref a0), (1, .int 0)]) rfl ?_
  exact k1 w1 e1 w2 e2 w3 e3
theorem u976 : (Cond.code ⟨"LineFollowerBench$TrackReader", "readPart", "()Z"⟩ prog_10_method_6_code 2 (some .boolean) : Cond) ∈ mTs := mTs_in 976 (by decide +kernel) (by decide +kernel)
theorem co_X8_readPart : mCode mX8_readPart := ⟨u976, u76, by decide⟩
theorem u973 : (Cond.methodLink "LineFollowerBench$TrackReader" 42 ⟨"LineFollowerBench$TrackReader", "readPart", "()Z"⟩ : Cond) ∈ mTs := mTs_in 973 (by decide +kernel) (by decide +kernel)
theorem u975 : (Cond.instanceMethod ⟨"LineFollowerBench$TrackReader", "readPart", "()Z"⟩ : Cond) ∈ mTs := mTs_in 975 (by decide +kernel) (by decide +kernel)
theorem u26 : (Cond.selects "LineFollowerBench$TrackReader" ⟨"LineFollowerBench$TrackReader", "readPart", "()Z"⟩ ⟨"LineFollowerBench$TrackReader", "readPart", "()Z"⟩ : Cond) ∈ mTs := mTs_in 26 (by decide +kernel) (by decide +kernel)
theorem l_X8_42 : mLinkV "LineFollowerBench$TrackReader" 42 0 mX8_readPart := ⟨⟨by decide, by decide, by decide +kernel⟩, co_X8_readPart, u973, u975, u26⟩
set_option maxHeartbeats 4000000 in
set_option maxRecDepth 100000 in
theorem gX8_readText_19 {G : mG} {w : mH} {Φ : mF} {a0 : Nat} {x1 : Int32} {lt : Nat → Nat} {n : Nat} {B : Nat → Int32} (h1 : hk w a0 = (8, 0)) (h2 : zRea w a0) (s1 : (¬ (50 ≤ x1)) → rdX w a0 lt n) (s2 : (¬ (50 ≤ x1)) → rdP w a0 ≤ n) (s3 : (¬ (50 ≤ x1)) → kRep w (a0 + 2) B) (s4 : (¬ (50 ≤ x1)) → ∀ w2 : mH, (mFr a0 (a0 + 9) w w2 ∧ rdT w w2 a0 (pPart lt n (rdP w a0) B)) → (¬ ((isL (pPart lt n (rdP w a0) B)) = 0)) → (¬ ((hfi w2 a0 4) = (hfi w2 a0 1))) → rdX w2 a0 lt n) (s5 : (¬ (50 ≤ x1)) → ∀ w2 : mH, (mFr a0 (a0 + 9) w w2 ∧ rdT w w2 a0 (pPart lt n (rdP w a0) B)) → (¬ ((isL (pPart lt n (rdP w a0) B)) = 0)) → (¬ ((hfi w2 a0 4) = (hfi w2 a0 1))) → 59 = nI (nT 59)) (s6 : (¬ (50 ≤ x1)) → ∀ w2 : mH, (mFr a0 (a0 + 9) w w2 ∧ rdT w w2 a0 (pPart lt n (rdP w a0) B)) → (¬ ((isL (pPart lt n (rdP w a0) B)) = 0)) → (¬ ((hfi w2 a0 4) = (hfi w2 a0 1))) → nT 59 ≤ 126) (k1 : (50 ≤ x1) → ∀ w1 : mH, (w1 = sX8_failAt w a0 (hfi w a0 4)) → Φ (.inl (some (.int 0))) w1) (k2 : (¬ (50 ≤ x1)) → ∀ w2 : mH, (mFr a0 (a0 + 9) w w2 ∧ rdT w w2 a0 (pPart lt n (rdP w a0) B)) → (¬ ((isL (pPart lt n (rdP w a0) B)) = 0)) → (¬ ((hfi w2 a0 4) = (hfi w2 a0 1))) → ∀ w3 : mH, (mFr a0 (a0 + 1) w2 w3 ∧ rdC w2 w3 a0 (pCh (nT 59) lt n (rdP w2 a0))) → (¬ ((isL (pCh (nT 59) lt n (rdP w2 a0))) = 0)) → mW G mX8_readText 6 0 0 19 [(0, .ref a0), (1, .int (x1 + 1))] [] w3 Φ) (k3 : (¬ (50 ≤ x1)) → ∀ w2 : mH, (mFr a0 (a0 + 9) w w2 ∧ rdT w w2 a0 (pPart lt n (rdP w a0) B)) → (¬ ((isL (pPart lt n (rdP w a0) B)) = 0)) → (¬ ((hfi w2 a0 4) = (hfi w2 a0 1))) → ∀ w3 : mH, (mFr a0 (a0 + 1) w2 w3 ∧ rdC w2 w3 a0 (pCh (nT 59) lt n (rdP w2 a0))) → ((isL (pCh (nT 59) lt n (rdP w2 a0))) = 0) → Φ (.inl (some (.int 0))) w3) (k4 : (¬ (50 ≤ x1)) → ∀ w2 : mH, (mFr a0 (a0 + 9) w w2 ∧ rdT w w2 a0 (pPart lt n (rdP w a0) B)) → (¬ ((isL (pPart lt n (rdP w a0) B)) = 0)) → ((hfi w2 a0 4) = (hfi w2 a0 1)) → Φ (.inl (some (.int 1))) w2) (k5 : (¬ (50 ≤ x1)) → ∀ w2 : mH, (mFr a0 (a0 + 9) w w2 ∧ rdT w w2 a0 (pPart lt n (rdP w a0) B)) → ((isL (pPart lt n (rdP w a0) B)) = 0) → Φ (.inl (some (.int 0))) w2) : mW G mX8_readText 6 0 0 19 [(0, .ref a0), (1, .int x1)] [] w Φ := by
  refine mW_iload_n (j := 1) dX8_readText_19 rfl rfl ?_
  refine mW_bipush (v := 50) dX8_readText_20 (by decide) ?_
  refine mW_icmp_ge (tgt := 64) dX8_readText_22 (by decide) (fun c1 => ?_) (fun c1 => ?_)
  · refine mW_aload_n (j := 0) dX8_readText_64 rfl rfl ?_
    refine mW_aload_n (j := 0) dX8_readText_65 rfl rfl ?_
    refine mW_get dX8_readText_66 f_X8_29 h1 rfl ?_
    refine mW_callVe (As := [.int (hfi w a0 4)]) (rest := []) (kc2 := 0) (ks2 := 0) dX8_readText_69 l_X8_50 rfl h1 rfl (by decide) (qX8_failAt (w := w) (a0 := a0) (x1 := hfi w a0 4) h1) (Nat.le_of_ble_eq_true rfl) (by decide) rfl rfl ?_
    refine mW_nm (fun w1 e1 => ?_)
    exact mW_zret (ty := .boolean) dX8_readText_72 rfl (by first | rfl | decide) (k1 c1 w1 e1)
  · refine mW_aload_n (j := 0) dX8_readText_25 rfl rfl ?_
    refine mW_callV (As := []) (rest := []) (kc2 := 0) (ks2 := 0) dX8_readText_26 l_X8_42 rfl h1 rfl (by decide) (rX8_readPart (w := w) (a0 := a0) h2 (s1 c1) (s2 c1) (s3 c1)) (Nat.le_of_ble_eq_true rfl) (by decide) rfl rfl mP_x (mP_k (fun w2 q1 => ?_))
    refine mW_if_ne (tgt := 34) dX8_readText_29 (by decide) (fun c2 => ?_) (fun c2 => ?_)
    · refine mW_aload_n (j := 0) dX8_readText_34 rfl rfl ?_
      refine mW_get dX8_readText_35 f_X8_29 (s2k (mS2.of q1.1.1) h1) rfl ?_
      refine mW_aload_n (j := 0) dX8_readText_38 rfl rfl ?_
      refine mW_get dX8_readText_39 f_X8_15 (s2k (mS2.of q1.1.1) h1) rfl ?_
      refine mW_icmp_ne (tgt := 47) dX8_readText_42 (by decide) (fun c3 => ?_) (fun c3 => ?_)
      · refine mW_aload_n (j := 0) dX8_readText_47 rfl rfl ?_
        refine mW_bipush (v := 59) dX8_readText_48 (by decide) ?_
        refine mW_callV (As := [.int 59]) (rest := []) (kc2 := 0) (ks2 := 0) dX8_readText_50 l_X8_46 rfl (s2k (mS2.of q1.1.1) h1) rfl (by decide) (rX8_readSign (w := w2) (a0 := a0) (x1 := 59) (zRea_s2 (mS2.of q1.1.1) h2) (s4 c1 w2 q1 c2 c3) (s5 c1 w2 q1 c2 c3) (s6 c1 w2 q1 c2 c3)) (Nat.le_of_ble_eq_true rfl) (by decide) rfl rfl mP_x (mP_k (fun w3 q2 => ?_))
        refine mW_if_ne (tgt := 58) dX8_readText_53 (by decide) (fun c4 => ?_) (fun c4 => ?_)
        · refine mW_iinc (j := 1) (v := x1 + 1) (lv2 := [(1, .int (x1 + 1)), (0, .ref a0)]) dX8_readText_58 rfl rfl (by decide) rfl ?_
          refine mW_goto (tgt := 19) dX8_readText_61 (by decide) ?_
          refine mW_loc [1, 0] (lv2 := [(0, .ref a0), (1, .int (x1 + 1))]) rfl ?_
          exact k2 c1 w2 q1 c2 c3 w3 q2 c4
        · refine mW_iconst (v := 0) dX8_readText_56 (by decide) ?_
          exact mW_zret (ty := .boolean) dX8_readText_57 rfl (by first | rfl | decide) (k3 c1 w2 q1 c2 c3 w3 q2 c4)
      · refine mW_iconst (v := 1) dX8_readText_45 (by decide) ?_
        exact mW_zret (ty := .boolean) dX8_readText_46 rfl (by first | rfl | decide) (k4 c1 w2 q1 c2 c3)
    · refine mW_iconst (v := 0) dX8_readText_32 (by decide) ?_
      exact mW_zret (ty := .boolean) dX8_readText_33 rfl (by first | rfl | decide) (k5 c1 w2 q1 c2)
theorem pSeg_le {k : Int32} {lt : Nat → Nat} {n p : Nat} {B : Nat → Int32} {x : Nat × (Nat → Int32)} (hp : p ≤ n) (h : pSeg k lt n p B = .inl x) : x.1 ≤ n := by
  unfold pSeg at h
  split at h
  · cases h
  · rename_i y e1
    split at h
    · cases h; exact pNum_le e1 hp
    · split at h
      · cases h
      · rename_i p2 e2
        split at h
        · cases h
        · rename_i z e3
          cases h
          exact pSg_le e3 (pCh_le e2 (by decide))
theorem pDis_le {lt : Nat → Nat} {n p : Nat} {B : Nat → Int32} {x : Nat × (Nat → Int32)} (hp : p ≤ n) (h : pDis lt n p B = .inl x) : x.1 ≤ n := by
  unfold pDis at h
  split at h
  · cases h
  · split at h
    · cases h
    · split at h
      · cases h
      · split at h
        · cases h
        · rename_i p4 e4
          split at h
          · cases h
          · rename_i z e5
            cases h
            exact pNum_le e5 (pCh_le e4 (by decide))
theorem pPart_le {lt : Nat → Nat} {n p : Nat} {B : Nat → Int32} {x : Nat × (Nat → Int32)} (hp : p ≤ n) (h : pPart lt n p B = .inl x) : x.1 ≤ n := by
  unfold pPart at h
  split at h
  · cases h
  · rename_i c
    have hp1 : p + 1 ≤ n := hc_lt (fun q => c (kd_0 q))
    split at h
    · split at h
      · exact pDis_le hp1 h
      · cases h
    · split at h
      · exact pSeg_le hp1 h
      · cases h
/-- the text from p on, at most f parts of it -/
def pTxt (lt : Nat → Nat) (n : Nat) : Nat → Nat → (Nat → Int32) → (Nat → Int32) ⊕ Nat
  | 0, p, _ => .inr p
  | f + 1, p, B => match pPart lt n p B with
    | .inr q => .inr q
    | .inl x => if x.1 = n then .inl x.2 else match pCh 59 lt n x.1 with
      | .inr q => .inr q
      | .inl p2 => pTxt lt n f p2 x.2
def rdU (w w' : mH) (a : Nat) (r : (Nat → Int32) ⊕ Nat) : Prop := hai w' (a + 1) = hai w (a + 1) ∧ hfi w' a 1 = hfi w a 1 ∧ (∀ x, r = .inl x → hfi w' a 2 = hfi w a 2 ∧ kRep w' (a + 2) x) ∧ ∀ q, r = .inr q → hfi w' a 2 = nI q
theorem rdU_bad {w w' : mH} {a q : Nat} (h0 : hai w' (a + 1) = hai w (a + 1)) (h1 : hfi w' a 1 = hfi w a 1) (h2 : hfi w' a 2 = nI q) : rdU w w' a (.inr q) := ⟨h0, h1, fun x hx => (by cases hx), fun y hy => (by cases hy; exact h2)⟩
theorem stT {w w1 : mH} {a n : Nat} {lt : Nat → Nat} {r : (Nat × (Nat → Int32)) ⊕ Nat} (h : rdX w a lt n) (o : rdT w w1 a r) (hb : ∀ x, r = .inl x → x.1 ≤ n) (c : ¬ isL r = 0) : ∃ x, r = .inl x ∧ rdX w1 a lt n ∧ rdP w1 a = x.1 ∧ x.1 ≤ n ∧ hai w1 (a + 1) = hai w (a + 1) ∧ hfi w1 a 1 = hfi w a 1 ∧ hfi w1 a 2 = hfi w a 2 ∧ kRep w1 (a + 2) x.2 := by
  obtain ⟨x, e⟩ := isL_1 c
  have hx := hb x e
  obtain ⟨g1, g2, g3⟩ := o.2.2.1 x e
  have hn := h.2.1
  exact ⟨x, e, rdX_mv h o.1 o.2.1 g2 (by omega), by unfold rdP; rw [g2]; exact m_cl (by omega), hx, o.1, o.2.1, g1, g3⟩
theorem readText_loop {G : mG} {w0 : mH} {a0 n : Nat} {lt : Nat → Nat} {Φ : mF} (z0 : zRea w0 a0) : ∀ f i w B, i + f = 50 → mFr a0 (a0 + 9) w0 w → rdX w a0 lt n → rdP w a0 ≤ n → kRep w (a0 + 2) B → hai w (a0 + 1) = hai w0 (a0 + 1) → hfi w a0 1 = hfi w0 a0 1 → hfi w a0 2 = hfi w0 a0 2 →
    (∀ w', mFr a0 (a0 + 9) w0 w' → rdU w0 w' a0 (pTxt lt n f (rdP w a0) B) → Φ (.inl (some (.int (isL (pTxt lt n f (rdP w a0) B))))) w') → mW G mX8_readText 6 0 0 19 [(0, .ref a0), (1, .int (nI i))] [] w Φ := by
  intro f
  induction f with
  | zero =>
    intro i w B hi F h hp hB hE1 hE2 hE3 hΦ
    have hs : mS2 w0 w := mS2.of F.1
    refine gX8_readText_19 (lt := lt) (n := n) (B := B) ((zRea_s2 hs z0).1) ((zRea_s2 hs z0)) (by intro c1; exact absurd (show (50 : Int32) ≤ nI i from (m_le (a := 50) (b := i) (by omega) (by omega)).mpr (by omega)) c1) (by intro c1; exact absurd (show (50 : Int32) ≤ nI i from (m_le (a := 50) (b := i) (by omega) (by omega)).mpr (by omega)) c1) (by intro c1; exact absurd (show (50 : Int32) ≤ nI i from (m_le (a := 50) (b := i) (by omega) (by omega)).mpr (by omega)) c1) (by intro c1 w2 q1 c2 c3; exact absurd (show (50 : Int32) ≤ nI i from (m_le (a := 50) (b := i) (by omega) (by omega)).mpr (by omega)) c1) (by intro c1 w2 q1 c2 c3; exact absurd (show (50 : Int32) ≤ nI i from (m_le (a := 50) (b := i) (by omega) (by omega)).mpr (by omega)) c1) (by intro c1 w2 q1 c2 c3; exact absurd (show (50 : Int32) ≤ nI i from (m_le (a := 50) (b := i) (by omega) (by omega)).mpr (by omega)) c1) ?_ ?_ ?_ ?_ ?_
    · intro c1 w1 e1
      have e' : w1 = sfi w a0 2 (hfi w a0 4) := e1
      rw [show pTxt lt n 0 (rdP w a0) B = .inr (rdP w a0) from rfl] at hΦ
      exact hΦ w1 (by rw [e']; exact mFr_sfi F (by omega) (by omega)) (rdU_bad (by rw [e']; exact hE1) (by rw [e', e_hfi_sfi, up2_k _ _ _ (by decide)]; exact hE2) (by rw [e', e_hfi_sfi, up2_at]; exact h.2.2.2.1))
    · intro c1 w2 q1 c2 c3 w3 q2 c4
      exact absurd (show (50 : Int32) ≤ nI i from (m_le (a := 50) (b := i) (by omega) (by omega)).mpr (by omega)) c1
    · intro c1 w2 q1 c2 c3 w3 q2 c4
      exact absurd (show (50 : Int32) ≤ nI i from (m_le (a := 50) (b := i) (by omega) (by omega)).mpr (by omega)) c1
    · intro c1 w2 q1 c2 c3
      exact absurd (show (50 : Int32) ≤ nI i from (m_le (a := 50) (b := i) (by omega) (by omega)).mpr (by omega)) c1
    · intro c1 w2 q1 c2
      exact absurd (show (50 : Int32) ≤ nI i from (m_le (a := 50) (b := i) (by omega) (by omega)).mpr (by omega)) c1
  | succ f ih =>
    intro i w B hi F h hp hB hE1 hE2 hE3 hΦ
    have hs : mS2 w0 w := mS2.of F.1
    refine gX8_readText_19 (lt := lt) (n := n) (B := B) ((zRea_s2 hs z0).1) ((zRea_s2 hs z0)) (by intro c1; exact h) (by intro c1; exact hp) (by intro c1; exact hB) (by intro c1 w2 q1 c2 c3; obtain ⟨x2v, r2, h2, p2, b2, u2, f2, g2, v2⟩ := stT h q1.2 (fun x e => pPart_le hp e) c2; exact h2) (by intro c1 w2 q1 c2 c3; obtain ⟨x2v, r2, h2, p2, b2, u2, f2, g2, v2⟩ := stT h q1.2 (fun x e => pPart_le hp e) c2; rfl) (by intro c1 w2 q1 c2 c3; obtain ⟨x2v, r2, h2, p2, b2, u2, f2, g2, v2⟩ := stT h q1.2 (fun x e => pPart_le hp e) c2; decide) ?_ ?_ ?_ ?_ ?_
    · intro c1 w1 e1
      exact absurd ((m_le (a := 50) (b := i) (by omega) (by omega)).mp c1) (by omega)
    · intro c1 w2 q1 c2 c3 w3 q2 c4
      obtain ⟨x2v, r2, h2, p2, b2, u2, f2, g2, v2⟩ := stT h q1.2 (fun x e => pPart_le hp e) c2
      obtain ⟨x4v, r4, h4, p4, b4, f4, g4, v4⟩ := stC h2 q2.1 q2.2 (by decide) c4
      have e3 : hfi w2 a0 4 = hfi w2 a0 1 ↔ x2v.1 = n := by rw [h2.2.2.2.1, show (hfi w2 a0 4).toNatClampNeg = x2v.1 from p2, h2.1]; have := h2.2.1; exact nI_eq (by omega) (by omega)
      rw [e3] at c3
      rw [p2] at r4
      have e : pTxt lt n (f + 1) (rdP w a0) B = pTxt lt n f x4v x2v.2 := by show (match pPart lt n (rdP w a0) B with | .inr q => _ | .inl x => _) = _; rw [r2]; simp only [if_neg c3, show pCh 59 lt n x2v.1 = .inl x4v from r4]
      rw [nI_1]
      rw [e, ← p4] at hΦ
      exact ih (i + 1) w3 x2v.2 (by omega) ((F.tr q1.1).tr (q2.1.wide (by omega) (by omega))) h4 (by omega) (kRep_fr q2.1 (by omega) v2) (by rw [q2.1.hai (by omega), u2, hE1]) (by rw [f4, f2, hE2]) (by rw [g4, g2, hE3]) hΦ
    · intro c1 w2 q1 c2 c3 w3 q2 c4
      obtain ⟨x2v, r2, h2, p2, b2, u2, f2, g2, v2⟩ := stT h q1.2 (fun x e => pPart_le hp e) c2
      obtain ⟨y4, r4⟩ := isL_0 c4
      have e3 : hfi w2 a0 4 = hfi w2 a0 1 ↔ x2v.1 = n := by rw [h2.2.2.2.1, show (hfi w2 a0 4).toNatClampNeg = x2v.1 from p2, h2.1]; have := h2.2.1; exact nI_eq (by omega) (by omega)
      rw [e3] at c3
      rw [p2] at r4
      have e : pTxt lt n (f + 1) (rdP w a0) B = .inr y4 := by show (match pPart lt n (rdP w a0) B with | .inr q => _ | .inl x => _) = _; rw [r2]; simp only [if_neg c3, show pCh 59 lt n x2v.1 = .inr y4 from r4]
      rw [e] at hΦ
      exact hΦ w3 ((F.tr q1.1).tr (q2.1.wide (by omega) (by omega))) (rdU_bad (by rw [q2.1.hai (by omega), u2, hE1]) (by rw [q2.2.1, f2, hE2]) (q2.2.2.2 _ (by rw [p2]; exact r4)))
    · intro c1 w2 q1 c2 c3
      obtain ⟨x2v, r2, h2, p2, b2, u2, f2, g2, v2⟩ := stT h q1.2 (fun x e => pPart_le hp e) c2
      have e3 : hfi w2 a0 4 = hfi w2 a0 1 ↔ x2v.1 = n := by rw [h2.2.2.2.1, show (hfi w2 a0 4).toNatClampNeg = x2v.1 from p2, h2.1]; have := h2.2.1; exact nI_eq (by omega) (by omega)
      rw [e3] at c3
      have e : pTxt lt n (f + 1) (rdP w a0) B = .inl x2v.2 := by show (match pPart lt n (rdP w a0) B with | .inr q => _ | .inl x => _) = _; rw [r2]; simp only [if_pos c3]
      rw [e] at hΦ
      exact hΦ w2 (F.tr q1.1) ⟨by rw [u2, hE1], by rw [f2, hE2], fun x hx => (by cases hx; exact ⟨by rw [g2, hE3], v2⟩), fun q hq => (by cases hq)⟩
    · intro c1 w2 q1 c2
      obtain ⟨y2, r2⟩ := isL_0 c2
      have e : pTxt lt n (f + 1) (rdP w a0) B = .inr y2 := by show (match pPart lt n (rdP w a0) B with | .inr q => _ | .inl x => _) = _; rw [r2]
      rw [e] at hΦ
      exact hΦ w2 (F.tr q1.1) (rdU_bad (by rw [q1.2.1, hE1]) (by rw [q1.2.2.1, hE2]) (q1.2.2.2.2 _ r2))
/-- readText: from nothing (B's counts are 0), the whole text -/
theorem rX8_readText {G : mG} {w : mH} {a0 n : Nat} {lt : Nat → Nat} {B : Nat → Int32} (z0 : zRea w a0) (h1 : hfi w a0 1 = nI n) (h2 : n ≤ 50) (h3 : ∀ i, i < n → hai w (a0 + 1) i = nI (lt i) ∧ 33 ≤ lt i ∧ lt i ≤ 126) (hB1 : B 40 = 0) (hB2 : B 65 = 0) : mC G mX8_readText 6 0 0 [.ref a0] w (mP (some (.int (isL (pTxt lt n 50 0 B)))) (fun w' => mFr a0 (a0 + 9) w w' ∧ hai w' (a0 + 1) = hai w (a0 + 1) ∧ hfi w' a0 1 = nI n ∧ (∀ x, pTxt lt n 50 0 B = .inl x → hfi w' a0 2 = -1 ∧ kRep w' (a0 + 2) x) ∧ ∀ q, pTxt lt n 50 0 B = .inr q → hfi w' a0 2 = nI q)) := by
  refine mC_of (by decide +kernel) rfl (Nat.le_of_ble_eq_true rfl) rfl ?_
  refine gX8_readText_0 (lt := lt) (n := n) (B := B) (a0_3 := a0 + 2) z0.1 z0.2.2.1 z0.2.2.2.2.1 ?_
  intro w1 e1 w2 e2 w3 e3
  have e3' : w3 = sfi (sfi w2 (a0 + 2) 3 0) (a0 + 2) 7 0 := e3
  have F : mFr a0 (a0 + 9) w w3 := by rw [e3', e2, e1]; exact mFr_sfi (mFr_sfi (mFr_sfi (mFr_sfi mFr.rf (by omega) (by omega)) (by omega) (by omega)) (by omega) (by omega)) (by omega) (by omega)
  have n2 : a0 ≠ a0 + 2 := by omega
  have g4 : hfi w3 a0 4 = nI 0 := by rw [e3', e_hfi_sfi, up2_a _ _ _ n2, e_hfi_sfi, up2_a _ _ _ n2, e2, e_hfi_sfi, up2_k _ _ _ (by decide), e1, e_hfi_sfi, up2_at]; rfl
  have g2 : hfi w3 a0 2 = -1 := by rw [e3', e_hfi_sfi, up2_a _ _ _ n2, e_hfi_sfi, up2_a _ _ _ n2, e2, e_hfi_sfi, up2_at]
  have g1 : hfi w3 a0 1 = nI n := by rw [e3', e_hfi_sfi, up2_a _ _ _ n2, e_hfi_sfi, up2_a _ _ _ n2, e2, e_hfi_sfi, up2_k _ _ _ (by decide), e1, e_hfi_sfi, up2_k _ _ _ (by decide)]; exact h1
  have gl : hai w3 (a0 + 1) = hai w (a0 + 1) := by rw [e3', e2, e1]; rfl
  have gX : rdX w3 a0 lt n := rdX_at g1 h2 (by rw [gl]; exact h3) g4 (by omega)
  have gp : rdP w3 a0 = 0 := by unfold rdP; rw [g4]; exact m_cl (by omega)
  have gB : kRep w3 (a0 + 2) B := ⟨0, 0, by omega, by omega, hB1, by rw [e3', e_hfi_sfi, up2_k _ _ _ (by decide), e_hfi_sfi, up2_at]; rfl, hB2, by rw [e3', e_hfi_sfi, up2_at]; rfl, fun i hi => absurd hi (Nat.not_lt_zero _), fun i hi => absurd hi (Nat.not_lt_zero _)⟩
  refine readText_loop (zRea_s2 (mS2.of F.1) z0) 50 0 w3 B (by omega) mFr.rf gX (by omega) gB rfl rfl rfl ?_
  intro w' F' u
  rw [gp] at u ⊢
  exact mP_of ⟨F.tr F', by rw [u.1, gl], by rw [u.2.1, g1], fun x hx => ⟨by rw [(u.2.2.1 x hx).1, g2], (u.2.2.1 x hx).2⟩, u.2.2.2⟩
