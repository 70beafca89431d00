set_option maxHeartbeats 4000000 in
set_option maxRecDepth 100000 in
theorem gX11_writes_0 {G : mG} {w : mH} {Φ : mF} {a0 : Nat} {x1 : Int32} {a0_13 n_a0_13 : Nat} (h1 : hk w a0 = (11, 0)) (h2 : hfr w a0 13 = some a0_13) (h3 : hk w a0_13 = (16, n_a0_13)) (s1 : vp_in (hfi w a0 14) n_a0_13) (k1 : ∀ w1 : mH, (w1 = sai w a0_13 ((hfi w a0 14).toNatClampNeg) x1) → ∀ w2 : mH, (w2 = sfi w1 a0 14 ((hfi w a0 14) + 1)) → Φ (.inl none) w2) : mW G mX11_writes 1 0 0 0 [(0, .ref a0), (1, .int x1)] [] w Φ := by
  refine mW_aload_n (j := 0) dX11_writes_0 rfl rfl ?_
  refine mW_getR dX11_writes_1 f_X11_36 h1 rfl h2 ?_
  refine mW_aload_n (j := 0) dX11_writes_4 rfl rfl ?_
  refine mW_get dX11_writes_5 f_X11_176 h1 rfl ?_
  refine mW_iload_n (j := 1) dX11_writes_8 rfl rfl ?_
  refine mW_iastJ dX11_writes_9 h3 s1 rfl ?_
  refine mW_nm (fun w1 e1 => ?_)
  refine mW_aload_n (j := 0) dX11_writes_10 rfl rfl ?_
  refine mW_dup dX11_writes_11 rfl ?_
  refine mW_getL (v := hfi w a0 14) dX11_writes_12 f_X11_176 (s2k (S2_sai e1) h1) rfl (by rw [e1, e_hfi_sai]) ?_
  refine mW_iconst (v := 1) dX11_writes_15 (by decide) ?_
  refine mW_iadd dX11_writes_16 ?_
  refine mW_put (ty := .int) (w2 := sfi w1 a0 14 ((hfi w a0 14) + 1)) dX11_writes_17 p_X11_176 (s2k (S2_sai e1) h1) (Nat.le_of_ble_eq_true rfl) (by first | rfl | decide | (repeat' split) <;> rfl) rfl (hN_sfi _ _ _ _) (hk_sfi _ _ _ _) (mE_sfi (s2k (S2_sai e1) h1) (by decide) (ob_11_14 _ _ _)) ?_
  refine mW_nm (fun w2 e2 => ?_)
  exact mW_vret dX11_writes_20 rfl (k1 w1 e1 w2 e2)
/-! the reference: writes, writesNumber, describe -/
def tLn (w : mH) (a0 : Nat) : Nat := (hfi w a0 14).toNatClampNeg
def txt (w : mH) (a0 : Nat) : List Int32 := (List.range (tLn w a0)).map (hai w (a0 + 7))
def tL (w : mH) (a0 n : Nat) : Prop := hfi w a0 14 = nI (tLn w a0) ∧ tLn w a0 ≤ n
theorem tL.le {w : mH} {a0 n m : Nat} (h : tL w a0 n) (hm : n ≤ m) : tL w a0 m := ⟨h.1, Nat.le_trans h.2 hm⟩
theorem tL_vp {w : mH} {a0 n : Nat} (h : tL w a0 n) (hn : n < 200) : vp_in (hfi w a0 14) 200 := by
  rw [h.1]
  exact m_vp (by have := h.2; omega) (by decide)
theorem txt_len {w : mH} {a0 : Nat} : (txt w a0).length = tLn w a0 := by unfold txt; rw [List.length_map, List.length_range]
/-- the text grows by l -/
def wrO (w w' : mH) (a0 : Nat) (l : List Int32) : Prop := xF [14] [7] a0 w w' ∧ txt w' a0 = txt w a0 ++ l ∧ ∀ n, tL w a0 n → tL w' a0 (n + l.length)
theorem wrO.tr {w w1 w2 : mH} {a0 : Nat} {l m : List Int32} (h : wrO w w1 a0 l) (g : wrO w1 w2 a0 m) : wrO w w2 a0 (l ++ m) := ⟨h.1.tr g.1, by rw [g.2.1, h.2.1, List.append_assoc], fun n hn => by
  rw [List.length_append, ← Nat.add_assoc]
  exact g.2.2 _ (h.2.2 n hn)⟩
theorem rX11_writes {G : mG} {w : mH} {a0 : Nat} {x1 : Int32} (z : zRef w a0) (h : tL w a0 199) : mC G mX11_writes 1 0 0 [.ref a0, .int x1] w (mP none (fun w' => wrO w w' a0 [x1])) := by
  have h2 := h.2
  refine mC_of (by decide +kernel) rfl (Nat.le_of_ble_eq_true rfl) rfl ?_
  refine gX11_writes_0 (a0_13 := a0 + 7) z.1 z.2.2.2.2.2.2.2.1 z.2.2.2.2.2.2.2.2.2.2.2.2.2.2.2.2.2.2.2.2.2.2.2.2.2.2.2.2.1 (by exact tL_vp h (by decide)) ?_
  intro w1 e1 w2 e2
  have F : xF [14] [7] a0 w w2 := by rw [e2, e1]; exact xF_sfi (xF_sai xF.rf (by decide)) (by decide)
  have e14 : hfi w2 a0 14 = nI (tLn w a0 + 1) := by rw [e2, e_hfi_sfi, up2_at, h.1, nI_1]
  have el : tLn w2 a0 = tLn w a0 + 1 := by unfold tLn; rw [e14]; exact m_cl (by omega)
  have er : hai w2 (a0 + 7) = upd (hai w (a0 + 7)) (tLn w a0) x1 := by rw [e2, e_hai_sfi, e1, e_hai_sai, up2_row]; rfl
  refine mP_of ⟨F, ?_, fun n hn => ⟨by rw [e14, el], by have := hn.2; rw [el]; show _ ≤ n + 1; omega⟩⟩
  unfold txt
  rw [el, List.range_succ, List.map_append, er]
  congr 1
  · refine List.map_congr_left (fun i hi => ?_)
    rw [List.mem_range] at hi
    exact upd_ne (by omega)
  · show [upd _ _ _ _] = _
    unfold upd
    rw [if_pos rfl]
set_option maxHeartbeats 4000000 in
set_option maxRecDepth 100000 in
theorem gX11_writesNumber_0 {G : mG} {w : mH} {Φ : mF} {a0 : Nat} {x1 : Int32} (h1 : hk w a0 = (11, 0)) (h2 : zRef w a0) (s1 : (0 ≤ x1) → ((vX11_amount x1) ≤ 99) → ((vX11_amount x1) ≤ 9) → tL w a0 199) (s2 : (0 ≤ x1) → ((vX11_amount x1) ≤ 99) → (¬ ((vX11_amount x1) ≤ 9)) → tL w a0 199) (s3 : (0 ≤ x1) → ((vX11_amount x1) ≤ 99) → (¬ ((vX11_amount x1) ≤ 9)) → ∀ w2 : mH, (wrO w w2 a0 [(48 + (((vX11_amount x1) / 10) - ((vX11_amount x1) / 10) / 10 * 10))]) → tL w2 a0 199) (s4 : (0 ≤ x1) → (¬ ((vX11_amount x1) ≤ 99)) → tL w a0 199) (s5 : (0 ≤ x1) → (¬ ((vX11_amount x1) ≤ 99)) → ∀ w4 : mH, (wrO w w4 a0 [(48 + ((vX11_amount x1) / 100))]) → ((vX11_amount x1) ≤ 9) → tL w4 a0 199) (s6 : (0 ≤ x1) → (¬ ((vX11_amount x1) ≤ 99)) → ∀ w4 : mH, (wrO w w4 a0 [(48 + ((vX11_amount x1) / 100))]) → (¬ ((vX11_amount x1) ≤ 9)) → tL w4 a0 199) (s7 : (0 ≤ x1) → (¬ ((vX11_amount x1) ≤ 99)) → ∀ w4 : mH, (wrO w w4 a0 [(48 + ((vX11_amount x1) / 100))]) → (¬ ((vX11_amount x1) ≤ 9)) → ∀ w6 : mH, (wrO w4 w6 a0 [(48 + (((vX11_amount x1) / 10) - ((vX11_amount x1) / 10) / 10 * 10))]) → tL w6 a0 199) (s8 : (¬ (0 ≤ x1)) → tL w a0 199) (s9 : (¬ (0 ≤ x1)) → ∀ w8 : mH, (wrO w w8 a0 [45]) → ((vX11_amount x1) ≤ 99) → ((vX11_amount x1) ≤ 9) → tL w8 a0 199) (s10 : (¬ (0 ≤ x1)) → ∀ w8 : mH, (wrO w w8 a0 [45]) → ((vX11_amount x1) ≤ 99) → (¬ ((vX11_amount x1) ≤ 9)) → tL w8 a0 199) (s11 : (¬ (0 ≤ x1)) → ∀ w8 : mH, (wrO w w8 a0 [45]) → ((vX11_amount x1) ≤ 99) → (¬ ((vX11_amount x1) ≤ 9)) → ∀ w10 : mH, (wrO w8 w10 a0 [(48 + (((vX11_amount x1) / 10) - ((vX11_amount x1) / 10) / 10 * 10))]) → tL w10 a0 199) (s12 : (¬ (0 ≤ x1)) → ∀ w8 : mH, (wrO w w8 a0 [45]) → (¬ ((vX11_amount x1) ≤ 99)) → tL w8 a0 199) (s13 : (¬ (0 ≤ x1)) → ∀ w8 : mH, (wrO w w8 a0 [45]) → (¬ ((vX11_amount x1) ≤ 99)) → ∀ w12 : mH, (wrO w8 w12 a0 [(48 + ((vX11_amount x1) / 100))]) → ((vX11_amount x1) ≤ 9) → tL w12 a0 199) (s14 : (¬ (0 ≤ x1)) → ∀ w8 : mH, (wrO w w8 a0 [45]) → (¬ ((vX11_amount x1) ≤ 99)) → ∀ w12 : mH, (wrO w8 w12 a0 [(48 + ((vX11_amount x1) / 100))]) → (¬ ((vX11_amount x1) ≤ 9)) → tL w12 a0 199) (s15 : (¬ (0 ≤ x1)) → ∀ w8 : mH, (wrO w w8 a0 [45]) → (¬ ((vX11_amount x1) ≤ 99)) → ∀ w12 : mH, (wrO w8 w12 a0 [(48 + ((vX11_amount x1) / 100))]) → (¬ ((vX11_amount x1) ≤ 9)) → ∀ w14 : mH, (wrO w12 w14 a0 [(48 + (((vX11_amount x1) / 10) - ((vX11_amount x1) / 10) / 10 * 10))]) → tL w14 a0 199) (k1 : (0 ≤ x1) → ((vX11_amount x1) ≤ 99) → ((vX11_amount x1) ≤ 9) → ∀ w1 : mH, (wrO w w1 a0 [(48 + ((vX11_amount x1) - (vX11_amount x1) / 10 * 10))]) → Φ (.inl none) w1) (k2 : (0 ≤ x1) → ((vX11_amount x1) ≤ 99) → (¬ ((vX11_amount x1) ≤ 9)) → ∀ w2 : mH, (wrO w w2 a0 [(48 + (((vX11_amount x1) / 10) - ((vX11_amount x1) / 10) / 10 * 10))]) → ∀ w3 : mH, (wrO w2 w3 a0 [(48 + ((vX11_amount x1) - (vX11_amount x1) / 10 * 10))]) → Φ (.inl none) w3) (k3 : (0 ≤ x1) → (¬ ((vX11_amount x1) ≤ 99)) → ∀ w4 : mH, (wrO w w4 a0 [(48 + ((vX11_amount x1) / 100))]) → ((vX11_amount x1) ≤ 9) → ∀ w5 : mH, (wrO w4 w5 a0 [(48 + ((vX11_amount x1) - (vX11_amount x1) / 10 * 10))]) → Φ (.inl none) w5) (k4 : (0 ≤ x1) → (¬ ((vX11_amount x1) ≤ 99)) → ∀ w4 : mH, (wrO w w4 a0 [(48 + ((vX11_amount x1) / 100))]) → (¬ ((vX11_amount x1) ≤ 9)) → ∀ w6 : mH, (wrO w4 w6 a0 [(48 + (((vX11_amount x1) / 10) - ((vX11_amount x1) / 10) / 10 * 10))]) → ∀ w7 : mH, (wrO w6 w7 a0 [(48 + ((vX11_amount x1) - (vX11_amount x1) / 10 * 10))]) → Φ (.inl none) w7) (k5 : (¬ (0 ≤ x1)) → ∀ w8 : mH, (wrO w w8 a0 [45]) → ((vX11_amount x1) ≤ 99) → ((vX11_amount x1) ≤ 9) → ∀ w9 : mH, (wrO w8 w9 a0 [(48 + ((vX11_amount x1) - (vX11_amount x1) / 10 * 10))]) → Φ (.inl none) w9) (k6 : (¬ (0 ≤ x1)) → ∀ w8 : mH, (wrO w w8 a0 [45]) → ((vX11_amount x1) ≤ 99) → (¬ ((vX11_amount x1) ≤ 9)) → ∀ w10 : mH, (wrO w8 w10 a0 [(48 + (((vX11_amount x1) / 10) - ((vX11_amount x1) / 10) / 10 * 10))]) → ∀ w11 : mH, (wrO w10 w11 a0 [(48 + ((vX11_amount x1) - (vX11_amount x1) / 10 * 10))]) → Φ (.inl none) w11) (k7 : (¬ (0 ≤ x1)) → ∀ w8 : mH, (wrO w w8 a0 [45]) → (¬ ((vX11_amount x1) ≤ 99)) → ∀ w12 : mH, (wrO w8 w12 a0 [(48 + ((vX11_amount x1) / 100))]) → ((vX11_amount x1) ≤ 9) → ∀ w13 : mH, (wrO w12 w13 a0 [(48 + ((vX11_amount x1) - (vX11_amount x1) / 10 * 10))]) → Φ (.inl none) w13) (k8 : (¬ (0 ≤ x1)) → ∀ w8 : mH, (wrO w w8 a0 [45]) → (¬ ((vX11_amount x1) ≤ 99)) → ∀ w12 : mH, (wrO w8 w12 a0 [(48 + ((vX11_amount x1) / 100))]) → (¬ ((vX11_amount x1) ≤ 9)) → ∀ w14 : mH, (wrO w12 w14 a0 [(48 + (((vX11_amount x1) / 10) - ((vX11_amount x1) / 10) / 10 * 10))]) → ∀ w15 : mH, (wrO w14 w15 a0 [(48 + ((vX11_amount x1) - (vX11_amount x1) / 10 * 10))]) → Φ (.inl none) w15) : mW G mX11_writesNumber 2 0 0 0 [(0, .ref a0), (1, .int x1)] [] w Φ := by
  refine mW_iload_n (j := 1) dX11_writesNumber_0 rfl rfl ?_
  refine mW_callSe (As := [.int x1]) (rest := []) (kc2 := 0) (ks2 := 0) dX11_writesNumber_1 l_X11_179 rfl (qX11_amount (w := w) (x0 := x1)) (Nat.le_of_ble_eq_true rfl) (by decide) rfl rfl ?_
  refine mW_istore_n (lv2 := [(2, .int (vX11_amount x1)), (0, .ref a0), (1, .int x1)]) dX11_writesNumber_4 rfl (by decide) rfl ?_
  refine mW_iload_n (j := 2) dX11_writesNumber_5 rfl rfl ?_
  refine mW_if_ge (tgt := 15) dX11_writesNumber_6 (by decide) (fun c1 => ?_) (fun c1 => ?_)
  · refine mW_iload_n (j := 0) dX11_writesNumber_15 rfl rfl ?_
    refine mW_bipush (v := 99) dX11_writesNumber_16 (by decide) ?_
    refine mW_icmp_le (tgt := 32) dX11_writesNumber_18 (by decide) (fun c2 => ?_) (fun c2 => ?_)
    · refine mW_iload_n (j := 0) dX11_writesNumber_32 rfl rfl ?_
      refine mW_bipush (v := 9) dX11_writesNumber_33 (by decide) ?_
      refine mW_icmp_le (tgt := 52) dX11_writesNumber_35 (by decide) (fun c3 => ?_) (fun c3 => ?_)
      · refine mW_aload_n (j := 1) dX11_writesNumber_52 rfl rfl ?_
        refine mW_bipush (v := 48) dX11_writesNumber_53 (by decide) ?_
        refine mW_iload_n (j := 0) dX11_writesNumber_55 rfl rfl ?_
        refine mW_bipush (v := 10) dX11_writesNumber_56 (by decide) ?_
        refine mW_irem dX11_writesNumber_58 (by decide) ?_
        refine mW_iadd dX11_writesNumber_59 ?_
        refine mW_callV (As := [.int (48 + ((vX11_amount x1) - (vX11_amount x1) / 10 * 10))]) (rest := []) (kc2 := 0) (ks2 := 0) dX11_writesNumber_60 l_X11_182 rfl h1 rfl (by decide) (rX11_writes (w := w) (a0 := a0) (x1 := 48 + ((vX11_amount x1) - (vX11_amount x1) / 10 * 10)) h2 (s1 c1 c2 c3)) (Nat.le_of_ble_eq_true rfl) (by decide) rfl rfl mP_x (mP_k (fun w1 q1 => ?_))
        exact mW_vret dX11_writesNumber_63 rfl (k1 c1 c2 c3 w1 q1)
      · refine mW_aload_n (j := 1) dX11_writesNumber_38 rfl rfl ?_
        refine mW_bipush (v := 48) dX11_writesNumber_39 (by decide) ?_
        refine mW_iload_n (j := 0) dX11_writesNumber_41 rfl rfl ?_
        refine mW_bipush (v := 10) dX11_writesNumber_42 (by decide) ?_
        refine mW_idiv dX11_writesNumber_44 (by decide) ?_
        refine mW_bipush (v := 10) dX11_writesNumber_45 (by decide) ?_
        refine mW_irem dX11_writesNumber_47 (by decide) ?_
        refine mW_iadd dX11_writesNumber_48 ?_
        refine mW_callV (As := [.int (48 + (((vX11_amount x1) / 10) - ((vX11_amount x1) / 10) / 10 * 10))]) (rest := []) (kc2 := 0) (ks2 := 0) dX11_writesNumber_49 l_X11_182 rfl h1 rfl (by decide) (rX11_writes (w := w) (a0 := a0) (x1 := 48 + (((vX11_amount x1) / 10) - ((vX11_amount x1) / 10) / 10 * 10)) h2 (s2 c1 c2 c3)) (Nat.le_of_ble_eq_true rfl) (by decide) rfl rfl mP_x (mP_k (fun w2 q2 => ?_))
        refine mW_aload_n (j := 1) dX11_writesNumber_52 rfl rfl ?_
        refine mW_bipush (v := 48) dX11_writesNumber_53 (by decide) ?_
        refine mW_iload_n (j := 0) dX11_writesNumber_55 rfl rfl ?_
        refine mW_bipush (v := 10) dX11_writesNumber_56 (by decide) ?_
        refine mW_irem dX11_writesNumber_58 (by decide) ?_
        refine mW_iadd dX11_writesNumber_59 ?_
        refine mW_callV (As := [.int (48 + ((vX11_amount x1) - (vX11_amount x1) / 10 * 10))]) (rest := []) (kc2 := 0) (ks2 := 0) dX11_writesNumber_60 l_X11_182 rfl (s2k (mS2.of q2.1.1) h1) rfl (by decide) (rX11_writes (w := w2) (a0 := a0) (x1 := 48 + ((vX11_amount x1) - (vX11_amount x1) / 10 * 10)) (zRef_s2 (mS2.of q2.1.1) h2) (s3 c1 c2 c3 w2 q2)) (Nat.le_of_ble_eq_true rfl) (by decide) rfl rfl mP_x (mP_k (fun w3 q3 => ?_))
        exact mW_vret dX11_writesNumber_63 rfl (k2 c1 c2 c3 w2 q2 w3 q3)
    · refine mW_aload_n (j := 1) dX11_writesNumber_21 rfl rfl ?_
      refine mW_bipush (v := 48) dX11_writesNumber_22 (by decide) ?_
      refine mW_iload_n (j := 0) dX11_writesNumber_24 rfl rfl ?_
      refine mW_bipush (v := 100) dX11_writesNumber_25 (by decide) ?_
      refine mW_idiv dX11_writesNumber_27 (by decide) ?_
      refine mW_iadd dX11_writesNumber_28 ?_
      refine mW_callV (As := [.int (48 + ((vX11_amount x1) / 100))]) (rest := []) (kc2 := 0) (ks2 := 0) dX11_writesNumber_29 l_X11_182 rfl h1 rfl (by decide) (rX11_writes (w := w) (a0 := a0) (x1 := 48 + ((vX11_amount x1) / 100)) h2 (s4 c1 c2)) (Nat.le_of_ble_eq_true rfl) (by decide) rfl rfl mP_x (mP_k (fun w4 q4 => ?_))
      refine mW_iload_n (j := 0) dX11_writesNumber_32 rfl rfl ?_
      refine mW_bipush (v := 9) dX11_writesNumber_33 (by decide) ?_
      refine mW_icmp_le (tgt := 52) dX11_writesNumber_35 (by decide) (fun c4 => ?_) (fun c4 => ?_)
      · refine mW_aload_n (j := 1) dX11_writesNumber_52 rfl rfl ?_
        refine mW_bipush (v := 48) dX11_writesNumber_53 (by decide) ?_
        refine mW_iload_n (j := 0) dX11_writesNumber_55 rfl rfl ?_
        refine mW_bipush (v := 10) dX11_writesNumber_56 (by decide) ?_
        refine mW_irem dX11_writesNumber_58 (by decide) ?_
        refine mW_iadd dX11_writesNumber_59 ?_
        refine mW_callV (As := [.int (48 + ((vX11_amount x1) - (vX11_amount x1) / 10 * 10))]) (rest := []) (kc2 := 0) (ks2 := 0) dX11_writesNumber_60 l_X11_182 rfl (s2k (mS2.of q4.1.1) h1) rfl (by decide) (rX11_writes (w := w4) (a0 := a0) (x1 := 48 + ((vX11_amount x1) - (vX11_amount x1) / 10 * 10)) (zRef_s2 (mS2.of q4.1.1) h2) (s5 c1 c2 w4 q4 c4)) (Nat.le_of_ble_eq_true rfl) (by decide) rfl rfl mP_x (mP_k (fun w5 q5 => ?_))
        exact mW_vret dX11_writesNumber_63 rfl (k3 c1 c2 w4 q4 c4 w5 q5)
      · refine mW_aload_n (j := 1) dX11_writesNumber_38 rfl rfl ?_
        refine mW_bipush (v := 48) dX11_writesNumber_39 (by decide) ?_
        refine mW_iload_n (j := 0) dX11_writesNumber_41 rfl rfl ?_
        refine mW_bipush (v := 10) dX11_writesNumber_42 (by decide) ?_
        refine mW_idiv dX11_writesNumber_44 (by decide) ?_
        refine mW_bipush (v := 10) dX11_writesNumber_45 (by decide) ?_
        refine mW_irem dX11_writesNumber_47 (by decide) ?_
        refine mW_iadd dX11_writesNumber_48 ?_
        refine mW_callV (As := [.int (48 + (((vX11_amount x1) / 10) - ((vX11_amount x1) / 10) / 10 * 10))]) (rest := []) (kc2 := 0) (ks2 := 0) dX11_writesNumber_49 l_X11_182 rfl (s2k (mS2.of q4.1.1) h1) rfl (by decide) (rX11_writes (w := w4) (a0 := a0) (x1 := 48 + (((vX11_amount x1) / 10) - ((vX11_amount x1) / 10) / 10 * 10)) (zRef_s2 (mS2.of q4.1.1) h2) (s6 c1 c2 w4 q4 c4)) (Nat.le_of_ble_eq_true rfl) (by decide) rfl rfl mP_x (mP_k (fun w6 q6 => ?_))
        refine mW_aload_n (j := 1) dX11_writesNumber_52 rfl rfl ?_
        refine mW_bipush (v := 48) dX11_writesNumber_53 (by decide) ?_
        refine mW_iload_n (j := 0) dX11_writesNumber_55 rfl rfl ?_
        refine mW_bipush (v := 10) dX11_writesNumber_56 (by decide) ?_
        refine mW_irem dX11_writesNumber_58 (by decide) ?_
        refine mW_iadd dX11_writesNumber_59 ?_
        refine mW_callV (As := [.int (48 + ((vX11_amount x1) - (vX11_amount x1) / 10 * 10))]) (rest := []) (kc2 := 0) (ks2 := 0) dX11_writesNumber_60 l_X11_182 rfl (s2k (mS2.of q6.1.1) (s2k (mS2.of q4.1.1) h1)) rfl (by decide) (rX11_writes (w := w6) (a0 := a0) (x1 := 48 + ((vX11_amount x1) - (vX11_amount x1) / 10 * 10)) (zRef_s2 (mS2.of q6.1.1) (zRef_s2 (mS2.of q4.1.1) h2)) (s7 c1 c2 w4 q4 c4 w6 q6)) (Nat.le_of_ble_eq_true rfl) (by decide) rfl rfl mP_x (mP_k (fun w7 q7 => ?_))
        exact mW_vret dX11_writesNumber_63 rfl (k4 c1 c2 w4 q4 c4 w6 q6 w7 q7)
  · refine mW_aload_n (j := 1) dX11_writesNumber_9 rfl rfl ?_
    refine mW_bipush (v := 45) dX11_writesNumber_10 (by decide) ?_
    refine mW_callV (As := [.int 45]) (rest := []) (kc2 := 0) (ks2 := 0) dX11_writesNumber_12 l_X11_182 rfl h1 rfl (by decide) (rX11_writes (w := w) (a0 := a0) (x1 := 45) h2 (s8 c1)) (Nat.le_of_ble_eq_true rfl) (by decide) rfl rfl mP_x (mP_k (fun w8 q8 => ?_))
    refine mW_iload_n (j := 0) dX11_writesNumber_15 rfl rfl ?_
    refine mW_bipush (v := 99) dX11_writesNumber_16 (by decide) ?_
    refine mW_icmp_le (tgt := 32) dX11_writesNumber_18 (by decide) (fun c5 => ?_) (fun c5 => ?_)
    · refine mW_iload_n (j := 0) dX11_writesNumber_32 rfl rfl ?_
      refine mW_bipush (v := 9) dX11_writesNumber_33 (by decide) ?_
      refine mW_icmp_le (tgt := 52) dX11_writesNumber_35 (by decide) (fun c6 => ?_) (fun c6 => ?_)
      · refine mW_aload_n (j := 1) dX11_writesNumber_52 rfl rfl ?_
        refine mW_bipush (v := 48) dX11_writesNumber_53 (by decide) ?_
        refine mW_iload_n (j := 0) dX11_writesNumber_55 rfl rfl ?_
        refine mW_bipush (v := 10) dX11_writesNumber_56 (by decide) ?_
        refine mW_irem dX11_writesNumber_58 (by decide) ?_
        refine mW_iadd dX11_writesNumber_59 ?_
        refine mW_callV (As := [.int (48 + ((vX11_amount x1) - (vX11_amount x1) / 10 * 10))]) (rest := []) (kc2 := 0) (ks2 := 0) dX11_writesNumber_60 l_X11_182 rfl (s2k (mS2.of q8.1.1) h1) rfl (by decide) (rX11_writes (w := w8) (a0 := a0) (x1 := 48 + ((vX11_amount x1) - (vX11_amount x1) / 10 * 10)) (zRef_s2 (mS2.of q8.1.1) h2) (s9 c1 w8 q8 c5 c6)) (Nat.le_of_ble_eq_true rfl) (by decide) rfl rfl mP_x (mP_k (fun w9 q9 => ?_))
        exact mW_vret dX11_writesNumber_63 rfl (k5 c1 w8 q8 c5 c6 w9 q9)
      · refine mW_aload_n (j := 1) dX11_writesNumber_38 rfl rfl ?_
        refine mW_bipush (v := 48) dX11_writesNumber_39 (by decide) ?_
        refine mW_iload_n (j := 0) dX11_writesNumber_41 rfl rfl ?_
        refine mW_bipush (v := 10) dX11_writesNumber_42 (by decide) ?_
        refine mW_idiv dX11_writesNumber_44 (by decide) ?_
        refine mW_bipush (v := 10) dX11_writesNumber_45 (by decide) ?_
        refine mW_irem dX11_writesNumber_47 (by decide) ?_
        refine mW_iadd dX11_writesNumber_48 ?_
        refine mW_callV (As := [.int (48 + (((vX11_amount x1) / 10) - ((vX11_amount x1) / 10) / 10 * 10))]) (rest := []) (kc2 := 0) (ks2 := 0) dX11_writesNumber_49 l_X11_182 rfl (s2k (mS2.of q8.1.1) h1) rfl (by decide) (rX11_writes (w := w8) (a0 := a0) (x1 := 48 + (((vX11_amount x1) / 10) - ((vX11_amount x1) / 10) / 10 * 10)) (zRef_s2 (mS2.of q8.1.1) h2) (s10 c1 w8 q8 c5 c6)) (Nat.le_of_ble_eq_true rfl) (by decide) rfl rfl mP_x (mP_k (fun w10 q10 => ?_))
        refine mW_aload_n (j := 1) dX11_writesNumber_52 rfl rfl ?_
        refine mW_bipush (v := 48) dX11_writesNumber_53 (by decide) ?_
        refine mW_iload_n (j := 0) dX11_writesNumber_55 rfl rfl ?_
        refine mW_bipush (v := 10) dX11_writesNumber_56 (by decide) ?_
        refine mW_irem dX11_writesNumber_58 (by decide) ?_
        refine mW_iadd dX11_writesNumber_59 ?_
        refine mW_callV (As := [.int (48 + ((vX11_amount x1) - (vX11_amount x1) / 10 * 10))]) (rest := []) (kc2 := 0) (ks2 := 0) dX11_writesNumber_60 l_X11_182 rfl (s2k (mS2.of q10.1.1) (s2k (mS2.of q8.1.1) h1)) rfl (by decide) (rX11_writes (w := w10) (a0 := a0) (x1 := 48 + ((vX11_amount x1) - (vX11_amount x1) / 10 * 10)) (zRef_s2 (mS2.of q10.1.1) (zRef_s2 (mS2.of q8.1.1) h2)) (s11 c1 w8 q8 c5 c6 w10 q10)) (Nat.le_of_ble_eq_true rfl) (by decide) rfl rfl mP_x (mP_k (fun w11 q11 => ?_))
        exact mW_vret dX11_writesNumber_63 rfl (k6 c1 w8 q8 c5 c6 w10 q10 w11 q11)
    · refine mW_aload_n (j := 1) dX11_writesNumber_21 rfl rfl ?_
      refine mW_bipush (v := 48) dX11_writesNumber_22 (by decide) ?_
      refine mW_iload_n (j := 0) dX11_writesNumber_24 rfl rfl ?_
      refine mW_bipush (v := 100) dX11_writesNumber_25 (by decide) ?_
      refine mW_idiv dX11_writesNumber_27 (by decide) ?_
      refine mW_iadd dX11_writesNumber_28 ?_
      refine mW_callV (As := [.int (48 + ((vX11_amount x1) / 100))]) (rest := []) (kc2 := 0) (ks2 := 0) dX11_writesNumber_29 l_X11_182 rfl (s2k (mS2.of q8.1.1) h1) rfl (by decide) (rX11_writes (w := w8) (a0 := a0) (x1 := 48 + ((vX11_amount x1) / 100)) (zRef_s2 (mS2.of q8.1.1) h2) (s12 c1 w8 q8 c5)) (Nat.le_of_ble_eq_true rfl) (by decide) rfl rfl mP_x (mP_k (fun w12 q12 => ?_))
      refine mW_iload_n (j := 0) dX11_writesNumber_32 rfl rfl ?_
      refine mW_bipush (v := 9) dX11_writesNumber_33 (by decide) ?_
      refine mW_icmp_le (tgt := 52) dX11_writesNumber_35 (by decide) (fun c7 => ?_) (fun c7 => ?_)
      · refine mW_aload_n (j := 1) dX11_writesNumber_52 rfl rfl ?_
        refine mW_bipush (v := 48) dX11_writesNumber_53 (by decide) ?_
        refine mW_iload_n (j := 0) dX11_writesNumber_55 rfl rfl ?_
        refine mW_bipush (v := 10) dX11_writesNumber_56 (by decide) ?_
        refine mW_irem dX11_writesNumber_58 (by decide) ?_
        refine mW_iadd dX11_writesNumber_59 ?_
        refine mW_callV (As := [.int (48 + ((vX11_amount x1) - (vX11_amount x1) / 10 * 10))]) (rest := []) (kc2 := 0) (ks2 := 0) dX11_writesNumber_60 l_X11_182 rfl (s2k (mS2.of q12.1.1) (s2k (mS2.of q8.1.1) h1)) rfl (by decide) (rX11_writes (w := w12) (a0 := a0) (x1 := 48 + ((vX11_amount x1) - (vX11_amount x1) / 10 * 10)) (zRef_s2 (mS2.of q12.1.1) (zRef_s2 (mS2.of q8.1.1) h2)) (s13 c1 w8 q8 c5 w12 q12 c7)) (Nat.le_of_ble_eq_true rfl) (by decide) rfl rfl mP_x (mP_k (fun w13 q13 => ?_))
        exact mW_vret dX11_writesNumber_63 rfl (k7 c1 w8 q8 c5 w12 q12 c7 w13 q13)
      · refine mW_aload_n (j := 1) dX11_writesNumber_38 rfl rfl ?_
        refine mW_bipush (v := 48) dX11_writesNumber_39 (by decide) ?_
        refine mW_iload_n (j := 0) dX11_writesNumber_41 rfl rfl ?_
        refine mW_bipush (v := 10) dX11_writesNumber_42 (by decide) ?_
        refine mW_idiv dX11_writesNumber_44 (by decide) ?_
        refine mW_bipush (v := 10) dX11_writesNumber_45 (by decide) ?_
        refine mW_irem dX11_writesNumber_47 (by decide) ?_
        refine mW_iadd dX11_writesNumber_48 ?_
        refine mW_callV (As := [.int (48 + (((vX11_amount x1) / 10) - ((vX11_amount x1) / 10) / 10 * 10))]) (rest := []) (kc2 := 0) (ks2 := 0) dX11_writesNumber_49 l_X11_182 rfl (s2k (mS2.of q12.1.1) (s2k (mS2.of q8.1.1) h1)) rfl (by decide) (rX11_writes (w := w12) (a0 := a0) (x1 := 48 + (((vX11_amount x1) / 10) - ((vX11_amount x1) / 10) / 10 * 10)) (zRef_s2 (mS2.of q12.1.1) (zRef_s2 (mS2.of q8.1.1) h2)) (s14 c1 w8 q8 c5 w12 q12 c7)) (Nat.le_of_ble_eq_true rfl) (by decide) rfl rfl mP_x (mP_k (fun w14 q14 => ?_))
        refine mW_aload_n (j := 1) dX11_writesNumber_52 rfl rfl ?_
        refine mW_bipush (v := 48) dX11_writesNumber_53 (by decide) ?_
        refine mW_iload_n (j := 0) dX11_writesNumber_55 rfl rfl ?_
        refine mW_bipush (v := 10) dX11_writesNumber_56 (by decide) ?_
        refine mW_irem dX11_writesNumber_58 (by decide) ?_
        refine mW_iadd dX11_writesNumber_59 ?_
        refine mW_callV (As := [.int (48 + ((vX11_amount x1) - (vX11_amount x1) / 10 * 10))]) (rest := []) (kc2 := 0) (ks2 := 0) dX11_writesNumber_60 l_X11_182 rfl (s2k (mS2.of q14.1.1) (s2k (mS2.of q12.1.1) (s2k (mS2.of q8.1.1) h1))) rfl (by decide) (rX11_writes (w := w14) (a0 := a0) (x1 := 48 + ((vX11_amount x1) - (vX11_amount x1) / 10 * 10)) (zRef_s2 (mS2.of q14.1.1) (zRef_s2 (mS2.of q12.1.1) (zRef_s2 (mS2.of q8.1.1) h2))) (s15 c1 w8 q8 c5 w12 q12 c7 w14 q14)) (Nat.le_of_ble_eq_true rfl) (by decide) rfl rfl mP_x (mP_k (fun w15 q15 => ?_))
        exact mW_vret dX11_writesNumber_63 rfl (k8 c1 w8 q8 c5 w12 q12 c7 w14 q14 w15 q15)
def dNum (x : Int32) : List Int32 := (if 0 ≤ x then [] else [45]) ++ ((if vX11_amount x ≤ 99 then [] else [48 + vX11_amount x / 100]) ++ ((if vX11_amount x ≤ 9 then [] else [48 + (vX11_amount x / 10 - vX11_amount x / 10 / 10 * 10)]) ++ [48 + (vX11_amount x - vX11_amount x / 10 * 10)]))
theorem dNum_len (x : Int32) : (dNum x).length ≤ 4 := by
  unfold dNum
  repeat' split
  all_goals exact Nat.le_of_ble_eq_true rfl
theorem rX11_writesNumber {G : mG} {w : mH} {a0 : Nat} {x1 : Int32} (z : zRef w a0) (h : tL w a0 190) : mC G mX11_writesNumber 2 0 0 [.ref a0, .int x1] w (mP none (fun w' => wrO w w' a0 (dNum x1))) := by
  refine mC_of (by decide +kernel) rfl (Nat.le_of_ble_eq_true rfl) rfl ?_
  refine gX11_writesNumber_0 z.1 z (by intro c1 c2 c3; exact h.le (Nat.le_of_ble_eq_true rfl)) (by intro c1 c2 c3; exact h.le (Nat.le_of_ble_eq_true rfl)) (by intro c1 c2 c3 w2 q2; exact (q2.2.2 _ h).le (Nat.le_of_ble_eq_true rfl)) (by intro c1 c2; exact h.le (Nat.le_of_ble_eq_true rfl)) (by intro c1 c2 w4 q4 c4; exact (q4.2.2 _ h).le (Nat.le_of_ble_eq_true rfl)) (by intro c1 c2 w4 q4 c4; exact (q4.2.2 _ h).le (Nat.le_of_ble_eq_true rfl)) (by intro c1 c2 w4 q4 c4 w6 q6; exact (q6.2.2 _ (q4.2.2 _ h)).le (Nat.le_of_ble_eq_true rfl)) (by intro c1; exact h.le (Nat.le_of_ble_eq_true rfl)) (by intro c1 w8 q8 c5 c6; exact (q8.2.2 _ h).le (Nat.le_of_ble_eq_true rfl)) (by intro c1 w8 q8 c5 c6; exact (q8.2.2 _ h).le (Nat.le_of_ble_eq_true rfl)) (by intro c1 w8 q8 c5 c6 w10 q10; exact (q10.2.2 _ (q8.2.2 _ h)).le (Nat.le_of_ble_eq_true rfl)) (by intro c1 w8 q8 c5; exact (q8.2.2 _ h).le (Nat.le_of_ble_eq_true rfl)) (by intro c1 w8 q8 c5 w12 q12 c7; exact (q12.2.2 _ (q8.2.2 _ h)).le (Nat.le_of_ble_eq_true rfl)) (by intro c1 w8 q8 c5 w12 q12 c7; exact (q12.2.2 _ (q8.2.2 _ h)).le (Nat.le_of_ble_eq_true rfl)) (by intro c1 w8 q8 c5 w12 q12 c7 w14 q14; exact (q14.2.2 _ (q12.2.2 _ (q8.2.2 _ h))).le (Nat.le_of_ble_eq_true rfl)) ?_ ?_ ?_ ?_ ?_ ?_ ?_ ?_
  · intro c1 c2 c3 w1 q1
    have e : dNum x1 = [(48 + ((vX11_amount x1) - (vX11_amount x1) / 10 * 10))] := by unfold dNum; rw [if_pos c1, if_pos c2, if_pos c3]; rfl
    rw [e]
    exact mP_of (q1)
  · intro c1 c2 c3 w2 q2 w3 q3
    have e : dNum x1 = ([(48 + (((vX11_amount x1) / 10) - ((vX11_amount x1) / 10) / 10 * 10))] ++ [(48 + ((vX11_amount x1) - (vX11_amount x1) / 10 * 10))]) := by unfold dNum; rw [if_pos c1, if_pos c2, if_neg c3]; rfl
    rw [e]
    exact mP_of ((q2).tr q3)
  · intro c1 c2 w4 q4 c4 w5 q5
    have e : dNum x1 = ([(48 + ((vX11_amount x1) / 100))] ++ [(48 + ((vX11_amount x1) - (vX11_amount x1) / 10 * 10))]) := by unfold dNum; rw [if_pos c1, if_neg c2, if_pos c4]; rfl
    rw [e]
    exact mP_of ((q4).tr q5)
  · intro c1 c2 w4 q4 c4 w6 q6 w7 q7
    have e : dNum x1 = (([(48 + ((vX11_amount x1) / 100))] ++ [(48 + (((vX11_amount x1) / 10) - ((vX11_amount x1) / 10) / 10 * 10))]) ++ [(48 + ((vX11_amount x1) - (vX11_amount x1) / 10 * 10))]) := by unfold dNum; rw [if_pos c1, if_neg c2, if_neg c4]; rfl
    rw [e]
    exact mP_of (((q4).tr q6).tr q7)
  · intro c1 w8 q8 c5 c6 w9 q9
    have e : dNum x1 = ([45] ++ [(48 + ((vX11_amount x1) - (vX11_amount x1) / 10 * 10))]) := by unfold dNum; rw [if_neg c1, if_pos c5, if_pos c6]; rfl
    rw [e]
    exact mP_of ((q8).tr q9)
  · intro c1 w8 q8 c5 c6 w10 q10 w11 q11
    have e : dNum x1 = (([45] ++ [(48 + (((vX11_amount x1) / 10) - ((vX11_amount x1) / 10) / 10 * 10))]) ++ [(48 + ((vX11_amount x1) - (vX11_amount x1) / 10 * 10))]) := by unfold dNum; rw [if_neg c1, if_pos c5, if_neg c6]; rfl
    rw [e]
    exact mP_of (((q8).tr q10).tr q11)
  · intro c1 w8 q8 c5 w12 q12 c7 w13 q13
    have e : dNum x1 = (([45] ++ [(48 + ((vX11_amount x1) / 100))]) ++ [(48 + ((vX11_amount x1) - (vX11_amount x1) / 10 * 10))]) := by unfold dNum; rw [if_neg c1, if_neg c5, if_pos c7]; rfl
    rw [e]
    exact mP_of (((q8).tr q12).tr q13)
  · intro c1 w8 q8 c5 w12 q12 c7 w14 q14 w15 q15
    have e : dNum x1 = ((([45] ++ [(48 + ((vX11_amount x1) / 100))]) ++ [(48 + (((vX11_amount x1) / 10) - ((vX11_amount x1) / 10) / 10 * 10))]) ++ [(48 + ((vX11_amount x1) - (vX11_amount x1) / 10 * 10))]) := by unfold dNum; rw [if_neg c1, if_neg c5, if_neg c7]; rfl
    rw [e]
    exact mP_of ((((q8).tr q12).tr q14).tr q15)
