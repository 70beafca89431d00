abbrev mX9_takeBestOfRow : mM := (yX9_takeBestOfRow, cX9_takeBestOfRow, 9, (some .long), [])
set_option maxHeartbeats 4000000 in
set_option maxRecDepth 100000 in
theorem gX9_takeBestOfRow_0 {G : mG} {w : mH} {Φ : mF} {a0 a1 : Nat} {x2 : Int32} {a0_3 n_a0_3 a1_2 n_a1_2 a0_2 n_a0_2 : Nat} (h1 : hk w a0 = (9, 0)) (h2 : hfr w a0 3 = some a0_3) (h3 : hk w a0_3 = (16, n_a0_3)) (s1 : vp_in 0 n_a0_3) (h4 : hk w a1 = (1, 0)) (h5 : hfr w a1 2 = some a1_2) (h6 : hk w a1_2 = (16, n_a1_2)) (s2 : vp_in 1 n_a1_2) (s3 : vp_in 1 n_a0_3) (s4 : vp_in 2 n_a1_2) (s5 : vp_in 2 n_a0_3) (h7 : hfr w a0 2 = some a0_2) (h8 : hk w a0_2 = (17, n_a0_2)) (s6 : ((vX10_isWithin x2 0 2) = 0) → (¬ ((vX10_isWithin (((((hai w a0_3 0) * (hai w a1_2 1)) + (hai w a0_3 1)) * (hai w a1_2 2)) + (hai w a0_3 2)) 0 215) = 0)) → vp_in (((((hai w a0_3 0) * (hai w a1_2 1)) + (hai w a0_3 1)) * (hai w a1_2 2)) + (hai w a0_3 2)) n_a0_2) (k1 : (¬ ((vX10_isWithin x2 0 2) = 0)) → mW G mX9_takeBestOfRow 4 0 0 23 [(0, .ref a0), (1, .ref a1), (2, .int x2), (3, .int 0), (4, .long 0), (6, .int 0)] [] w Φ) (k2 : ((vX10_isWithin x2 0 2) = 0) → Φ (.inl (some (.long (vX9_costAtIndexes w a0_3 a1_2 a0_2)))) w) : mW G mX9_takeBestOfRow 4 0 0 0 [(0, .ref a0), (1, .ref a1), (2, .int x2)] [] w Φ := by
  refine mW_iload_n (j := 2) dX9_takeBestOfRow_0 rfl rfl ?_
  refine mW_iconst (v := 0) dX9_takeBestOfRow_1 (by decide) ?_
  refine mW_iconst (v := 2) dX9_takeBestOfRow_2 (by decide) ?_
  refine mW_callSNe (As := [.int x2, .int 0, .int 2]) (rest := []) (kc2 := 0) (ks2 := 0) dX9_takeBestOfRow_3 l_X9_82 rfl (qX10_isWithin (w := w) (x0 := x2) (x1 := 0) (x2 := 2)) (Nat.le_of_ble_eq_true rfl) (by decide) rfl rfl ?_
  refine mW_if_ne (tgt := 15) dX9_takeBestOfRow_6 (by decide) (fun c1 => ?_) (fun c1 => ?_)
  · refine mW_iconst (v := 0) dX9_takeBestOfRow_15 (by decide) ?_
    refine mW_istore_n (lv2 := [(3, .int 0), (0, .ref a0), (1, .ref a1), (2, .int x2)]) dX9_takeBestOfRow_16 rfl (by decide) rfl ?_
    refine mW_lconst (v := 0) dX9_takeBestOfRow_17 (by decide) ?_
    refine mW_lstore (lv2 := [(4, .long 0), (3, .int 0), (0, .ref a0), (1, .ref a1), (2, .int x2)]) dX9_takeBestOfRow_18 (by decide) rfl ?_
    refine mW_iconst (v := 0) dX9_takeBestOfRow_20 (by decide) ?_
    refine mW_istore (lv2 := [(6, .int 0), (4, .long 0), (3, .int 0), (0, .ref a0), (1, .ref a1), (2, .int x2)]) dX9_takeBestOfRow_21 (by decide) rfl ?_
    refine mW_loc [3, 4, 5, 2, 1, 0] (lv2 := [(0, .ref a0), (1, .ref a1), (2, .int x2), (3, .int 0), (4, .long 0), (6, .int 0)]) rfl ?_
    exact k1 c1
  · refine mW_aload_n (j := 0) dX9_takeBestOfRow_9 rfl rfl ?_
    refine mW_aload_n (j := 1) dX9_takeBestOfRow_10 rfl rfl ?_
    refine mW_callVe (As := [.ref a1]) (rest := []) (kc2 := 0) (ks2 := 0) dX9_takeBestOfRow_11 l_X9_104 rfl h1 rfl (by decide) (qX9_costAtIndexes (w := w) (a0 := a0) (a1 := a1) h1 h2 h3 s1 h4 h5 h6 s2 s3 s4 s5 h7 h8 (s6 c1)) (Nat.le_of_ble_eq_true rfl) (by decide) rfl rfl ?_
    exact mW_lret dX9_takeBestOfRow_14 rfl (k2 c1)
set_option maxHeartbeats 4000000 in
set_option maxRecDepth 100000 in
theorem gX9_takeBestOfRow_23 {G : mG} {w : mH} {Φ : mF} {a0 a1 : Nat} {x2 x3 : Int32} {y4 : Int64} {x6 : Int32} {a1_2 n_a1_2 a0_3 n_a0_3 a0_2 n_a0_2 : Nat} (h1 : hk w a1 = (1, 0)) (h2 : hfr w a1 2 = some a1_2) (h3 : hk w a1_2 = (16, n_a1_2)) (s1 : vp_in x2 n_a1_2) (h4 : hk w a0 = (9, 0)) (h5 : hfr w a0 3 = some a0_3) (h6 : hk w a0_3 = (16, n_a0_3)) (s2 : ((hai w a1_2 x2.toNatClampNeg) ≤ x6) → vp_in x2 n_a0_3) (s3 : (¬ ((hai w a1_2 x2.toNatClampNeg) ≤ x6)) → vp_in x2 n_a0_3) (s4 : vp_in 0 n_a0_3) (s5 : vp_in 1 n_a1_2) (s6 : vp_in 1 n_a0_3) (s7 : vp_in 2 n_a1_2) (s8 : vp_in 2 n_a0_3) (h7 : hfr w a0 2 = some a0_2) (h8 : hk w a0_2 = (17, n_a0_2)) (s9 : (¬ ((hai w a1_2 x2.toNatClampNeg) ≤ x6)) → ∀ w2 : mH, (w2 = sai w a0_3 x2.toNatClampNeg x6) → (¬ ((vX10_isWithin (((((hai w2 a0_3 0) * (hai w2 a1_2 1)) + (hai w2 a0_3 1)) * (hai w2 a1_2 2)) + (hai w2 a0_3 2)) 0 215) = 0)) → vp_in (((((hai w2 a0_3 0) * (hai w2 a1_2 1)) + (hai w2 a0_3 1)) * (hai w2 a1_2 2)) + (hai w2 a0_3 2)) n_a0_2) (k1 : ((hai w a1_2 x2.toNatClampNeg) ≤ x6) → ∀ w1 : mH, (w1 = sai w a0_3 x2.toNatClampNeg x3) → Φ (.inl (some (.long y4))) w1) (k2 : (¬ ((hai w a1_2 x2.toNatClampNeg) ≤ x6)) → ∀ w2 : mH, (w2 = sai w a0_3 x2.toNatClampNeg x6) → (x6 = 0) → mW G mX9_takeBestOfRow 4 0 0 23 [(0, .ref a0), (1, .ref a1), (2, .int x2), (3, .int x6), (4, .long (vX9_costAtIndexes w2 a0_3 a1_2 a0_2)), (6, .int (x6 + 1))] [] w2 Φ) (k3 : (¬ ((hai w a1_2 x2.toNatClampNeg) ≤ x6)) → ∀ w2 : mH, (w2 = sai w a0_3 x2.toNatClampNeg x6) → (¬ (x6 = 0)) → (0 ≤ (lg_cmp (vX9_costAtIndexes w2 a0_3 a1_2 a0_2) y4)) → mW G mX9_takeBestOfRow 4 0 0 23 [(0, .ref a0), (1, .ref a1), (2, .int x2), (3, .int x3), (4, .long y4), (6, .int (x6 + 1))] [] w2 Φ) (k4 : (¬ ((hai w a1_2 x2.toNatClampNeg) ≤ x6)) → ∀ w2 : mH, (w2 = sai w a0_3 x2.toNatClampNeg x6) → (¬ (x6 = 0)) → (¬ (0 ≤ (lg_cmp (vX9_costAtIndexes w2 a0_3 a1_2 a0_2) y4))) → mW G mX9_takeBestOfRow 4 0 0 23 [(0, .ref a0), (1, .ref a1), (2, .int x2), (3, .int x6), (4, .long (vX9_costAtIndexes w2 a0_3 a1_2 a0_2)), (6, .int (x6 + 1))] [] w2 Φ) : mW G mX9_takeBestOfRow 4 0 0 23 [(0, .ref a0), (1, .ref a1), (2, .int x2), (3, .int x3), (4, .long y4), (6, .int x6)] [] w Φ := by
  refine mW_iload (j := 5) dX9_takeBestOfRow_23 rfl ?_
  refine mW_aload_n (j := 1) dX9_takeBestOfRow_25 rfl rfl ?_
  refine mW_getR dX9_takeBestOfRow_26 f_X9_67 h1 rfl h2 ?_
  refine mW_iload_n (j := 2) dX9_takeBestOfRow_29 rfl rfl ?_
  refine mW_ialdJ dX9_takeBestOfRow_30 h3 s1 rfl ?_
  refine mW_icmp_ge (tgt := 75) dX9_takeBestOfRow_31 (by decide) (fun c1 => ?_) (fun c1 => ?_)
  · refine mW_aload_n (j := 0) dX9_takeBestOfRow_75 rfl rfl ?_
    refine mW_getR dX9_takeBestOfRow_76 f_X9_29 h4 rfl h5 ?_
    refine mW_iload_n (j := 2) dX9_takeBestOfRow_79 rfl rfl ?_
    refine mW_iload_n (j := 3) dX9_takeBestOfRow_80 rfl rfl ?_
    refine mW_iastJ dX9_takeBestOfRow_81 h6 (s2 c1) rfl ?_
    refine mW_nm (fun w1 e1 => ?_)
    refine mW_lload (j := 4) dX9_takeBestOfRow_82 rfl ?_
    exact mW_lret dX9_takeBestOfRow_84 rfl (k1 c1 w1 e1)
  · refine mW_aload_n (j := 0) dX9_takeBestOfRow_34 rfl rfl ?_
    refine mW_getR dX9_takeBestOfRow_35 f_X9_29 h4 rfl h5 ?_
    refine mW_iload_n (j := 2) dX9_takeBestOfRow_38 rfl rfl ?_
    refine mW_iload (j := 5) dX9_takeBestOfRow_39 rfl ?_
    refine mW_iastJ dX9_takeBestOfRow_41 h6 (s3 c1) rfl ?_
    refine mW_nm (fun w2 e2 => ?_)
    refine mW_aload_n (j := 0) dX9_takeBestOfRow_42 rfl rfl ?_
    refine mW_aload_n (j := 1) dX9_takeBestOfRow_43 rfl rfl ?_
    refine mW_callVe (As := [.ref a1]) (rest := []) (kc2 := 0) (ks2 := 0) dX9_takeBestOfRow_44 l_X9_104 rfl (s2k (S2_sai e2) h4) rfl (by decide) (qX9_costAtIndexes (w := w2) (a0 := a0) (a1 := a1) (s2k (S2_sai e2) h4) (s2r (S2_sai e2) h5) (s2k (S2_sai e2) h6) s4 (s2k (S2_sai e2) h1) (s2r (S2_sai e2) h2) (s2k (S2_sai e2) h3) s5 s6 s7 s8 (s2r (S2_sai e2) h7) (s2k (S2_sai e2) h8) (s9 c1 w2 e2)) (Nat.le_of_ble_eq_true rfl) (by decide) rfl rfl ?_
    refine mW_lstore (lv2 := [(7, .long (vX9_costAtIndexes w2 a0_3 a1_2 a0_2)), (0, .ref a0), (1, .ref a1), (2, .int x2), (3, .int x3), (4, .long y4), (6, .int x6)]) dX9_takeBestOfRow_47 (by decide) rfl ?_
    refine mW_iload (j := 6) dX9_takeBestOfRow_49 rfl ?_
    refine mW_if_eq (tgt := 62) dX9_takeBestOfRow_51 (by decide) (fun c2 => ?_) (fun c2 => ?_)
    · refine mW_lload (j := 0) dX9_takeBestOfRow_62 rfl ?_
      refine mW_lstore (lv2 := [(4, .long (vX9_costAtIndexes w2 a0_3 a1_2 a0_2)), (7, .long (vX9_costAtIndexes w2 a0_3 a1_2 a0_2)), (0, .ref a0), (1, .ref a1), (2, .int x2), (3, .int x3), (6, .int x6)]) dX9_takeBestOfRow_64 (by decide) rfl ?_
      refine mW_iload (j := 6) dX9_takeBestOfRow_66 rfl ?_
      refine mW_istore_n (lv2 := [(3, .int x6), (4, .long (vX9_costAtIndexes w2 a0_3 a1_2 a0_2)), (7, .long (vX9_costAtIndexes w2 a0_3 a1_2 a0_2)), (0, .ref a0), (1, .ref a1), (2, .int x2), (6, .int x6)]) dX9_takeBestOfRow_68 rfl (by decide) rfl ?_
      refine mW_iinc (j := 6) (v := x6 + 1) (lv2 := [(6, .int (x6 + 1)), (3, .int x6), (4, .long (vX9_costAtIndexes w2 a0_3 a1_2 a0_2)), (7, .long (vX9_costAtIndexes w2 a0_3 a1_2 a0_2)), (0, .ref a0), (1, .ref a1), (2, .int x2)]) dX9_takeBestOfRow_69 rfl rfl (by decide) rfl ?_
      refine mW_goto (tgt := 23) dX9_takeBestOfRow_72 (by decide) ?_
      refine mW_loc [4, 5, 6, 1, 2, 0] (lv2 := [(0, .ref a0), (1, .ref a1), (2, .int x2), (3, .int x6), (4, .long (vX9_costAtIndexes w2 a0_3 a1_2 a0_2)), (6, .int (x6 + 1))]) rfl ?_
      exact k2 c1 w2 e2 c2
    · refine mW_lload (j := 0) dX9_takeBestOfRow_54 rfl ?_
      refine mW_lload (j := 5) dX9_takeBestOfRow_56 rfl ?_
      refine mW_lcmp dX9_takeBestOfRow_58 ?_
      refine mW_if_ge (tgt := 69) dX9_takeBestOfRow_59 (by decide) (fun c3 => ?_) (fun c3 => ?_)
      · refine mW_iinc (j := 6) (v := x6 + 1) (lv2 := [(6, .int (x6 + 1)), (7, .long (vX9_costAtIndexes w2 a0_3 a1_2 a0_2)), (0, .ref a0), (1, .ref a1), (2, .int x2), (3, .int x3), (4, .long y4)]) dX9_takeBestOfRow_69 rfl rfl (by decide) rfl ?_
        refine mW_goto (tgt := 23) dX9_takeBestOfRow_72 (by decide) ?_
        refine mW_loc [2, 3, 4, 5, 6, 0] (lv2 := [(0, .ref a0), (1, .ref a1), (2, .int x2), (3, .int x3), (4, .long y4), (6, .int (x6 + 1))]) rfl ?_
        exact k3 c1 w2 e2 c2 c3
      · refine mW_lload (j := 0) dX9_takeBestOfRow_62 rfl ?_
        refine mW_lstore (lv2 := [(4, .long (vX9_costAtIndexes w2 a0_3 a1_2 a0_2)), (7, .long (vX9_costAtIndexes w2 a0_3 a1_2 a0_2)), (0, .ref a0), (1, .ref a1), (2, .int x2), (3, .int x3), (6, .int x6)]) dX9_takeBestOfRow_64 (by decide) rfl ?_
        refine mW_iload (j := 6) dX9_takeBestOfRow_66 rfl ?_
        refine mW_istore_n (lv2 := [(3, .int x6), (4, .long (vX9_costAtIndexes w2 a0_3 a1_2 a0_2)), (7, .long (vX9_costAtIndexes w2 a0_3 a1_2 a0_2)), (0, .ref a0), (1, .ref a1), (2, .int x2), (6, .int x6)]) dX9_takeBestOfRow_68 rfl (by decide) rfl ?_
        refine mW_iinc (j := 6) (v := x6 + 1) (lv2 := [(6, .int (x6 + 1)), (3, .int x6), (4, .long (vX9_costAtIndexes w2 a0_3 a1_2 a0_2)), (7, .long (vX9_costAtIndexes w2 a0_3 a1_2 a0_2)), (0, .ref a0), (1, .ref a1), (2, .int x2)]) dX9_takeBestOfRow_69 rfl rfl (by decide) rfl ?_
        refine mW_goto (tgt := 23) dX9_takeBestOfRow_72 (by decide) ?_
        refine mW_loc [4, 5, 6, 1, 2, 0] (lv2 := [(0, .ref a0), (1, .ref a1), (2, .int x2), (3, .int x6), (4, .long (vX9_costAtIndexes w2 a0_3 a1_2 a0_2)), (6, .int (x6 + 1))]) rfl ?_
        exact k4 c1 w2 e2 c2 c3
def xs (x : Nat → Nat) (g v : Nat) : Nat → Nat := fun h => if h = g then v else x h
def fx (A : Nat → Int32) (x : Nat → Nat) : Nat := fl A (x 0) (x 1) (x 2)
def xOK (A : Nat → Int32) (x : Nat → Nat) : Prop := ∀ g, g < 3 → x g < cG A g
def rowQ (q : Nat → Int64) (A : Nat → Int32) (x : Nat → Nat) (g : Nat) : Nat → Int64 := fun v => q (fx A (xs x g v))
def bRow (q : Nat → Int64) (A : Nat → Int32) (x : Nat → Nat) (g : Nat) : Nat := fBest (rowQ q A x g) (cG A g)
def iX (w : mH) (a : Nat) (x : Nat → Nat) : Prop := ∀ g, g < 3 → hai w (a + 17) g = nI (x g)
theorem iX_i {w : mH} {a : Nat} {x : Nat → Nat} (h : iX w a x) : iRep w a (x 0) (x 1) (x 2) := ⟨h 0 (by decide), h 1 (by decide), h 2 (by decide)⟩
theorem iX_of {w : mH} {a i j k : Nat} {x : Nat → Nat} (h : iRep w a i j k) (h0 : x 0 = i) (h1 : x 1 = j) (h2 : x 2 = k) : iX w a x := by
  intro g hg
  rcases (show g = 0 ∨ g = 1 ∨ g = 2 by omega) with rfl | rfl | rfl
  · rw [h0]; exact h.1
  · rw [h1]; exact h.2.1
  · rw [h2]; exact h.2.2
theorem xs_ok {A : Nat → Int32} {x : Nat → Nat} {g v : Nat} (h : xOK A x) (hv : v < cG A g) : xOK A (xs x g v) := by
  intro h' hh
  unfold xs
  by_cases e : h' = g
  · rw [if_pos e, e]; exact hv
  · rw [if_neg e]; exact h h' hh
theorem fx_lt {A : Nat → Int32} {x : Nat → Nat} (h : xOK A x) : fx A x < gT A := fl_lt (h 0 (by decide)) (h 1 (by decide)) (h 2 (by decide))
theorem xs_xs {x : Nat → Nat} {g v u : Nat} : xs (xs x g v) g u = xs x g u := by
  funext h
  unfold xs
  split <;> rfl
theorem iX_set {w w' : mH} {a g v : Nat} {x : Nat → Nat} (h : iX w a x) (e : w' = sai w (a + 17) g (nI v)) : iX w' a (xs x g v) := by
  intro h' hh
  rw [e, e_hai_sai]
  unfold xs
  by_cases e1 : h' = g
  · subst e1; rw [up2_at, if_pos rfl]
  · rw [up2_k _ _ _ e1, if_neg e1]; exact h h' hh
theorem costX_v {w : mH} {a b : Nat} {A : Nat → Int32} {x : Nat → Nat} (h : gRep w b A) (ok : gOK A) (hx : xOK A x) (r : iX w a x) : vX9_costAtIndexes w (a + 17) (b + 3) (a + 16) = hal w (a + 16) (fx A x) := cost_v h ok (hx 0 (by decide)) (hx 1 (by decide)) (hx 2 (by decide)) (iX_i r)
theorem inX_v {w : mH} {a b : Nat} {A : Nat → Int32} {x : Nat → Nat} (h : gRep w b A) (ok : gOK A) (hx : xOK A x) (r : iX w a x) : vp_in (((((hai w (a + 17) 0) * (hai w (b + 3) 1)) + (hai w (a + 17) 1)) * (hai w (b + 3) 2)) + (hai w (a + 17) 2)) 216 := by
  have hlt := fx_lt hx
  have h216 := (gT_le ok).2
  have e : ((((hai w (a + 17) 0) * (hai w (b + 3) 1)) + (hai w (a + 17) 1)) * (hai w (b + 3) 2)) + (hai w (a + 17) 2) = nI (fx A x) := by
    rw [r 0 (by decide), r 1 (by decide), r 2 (by decide), gRep_c h ok (by decide), gRep_c h ok (by decide), pk_mul, nI_add, pk_mul, nI_add]
    rfl
  rw [e]
  exact m_vp (by omega) (by omega)
def bInv (w0 w : mH) (a0 : Nat) (A : Nat → Int32) (x : Nat → Nat) (g v : Nat) : Prop := mFr (a0 + 17) (a0 + 18) w0 w ∧ ∃ u, iX w a0 (xs x g u)
theorem best_body {G : mG} {w0 w : mH} {a0 a1 g v bst : Nat} {lst : Int64} {A : Nat → Int32} {x : Nat → Nat} {Φ : mF} (z0 : zTun w0 a0) (z1 : zGrid w0 a1) (hd1 : a0 + 18 ≤ a1 ∨ a1 + 4 ≤ a0) (h0 : gRep w0 a1 A) (ok : gOK A) (hx : xOK A x) (hg3 : g < 3) (I : bInv w0 w a0 A x g v) (ht : v ≤ cG A g) (hb : bst = fBest (rowQ (hal w0 (a0 + 16)) A x g) v) (hl : 0 < v → lst = rowQ (hal w0 (a0 + 16)) A x g bst)
    (ih : v < cG A g → ∀ w' bst' lst', bInv w0 w' a0 A x g (v + 1) → bst' = fBest (rowQ (hal w0 (a0 + 16)) A x g) (v + 1) → lst' = rowQ (hal w0 (a0 + 16)) A x g bst' → mW G mX9_takeBestOfRow 4 0 0 23 [(0, .ref a0), (1, .ref a1), (2, .int (nI g)), (3, .int (nI bst')), (4, .long lst'), (6, .int (nI (v + 1)))] [] w' Φ)
    (hΦ : v = cG A g → ∀ w', mFr (a0 + 17) (a0 + 18) w0 w' → iX w' a0 (xs x g bst) → Φ (.inl (some (.long lst))) w') : mW G mX9_takeBestOfRow 4 0 0 23 [(0, .ref a0), (1, .ref a1), (2, .int (nI g)), (3, .int (nI bst)), (4, .long lst), (6, .int (nI v))] [] w Φ := by
  obtain ⟨F, u, hu⟩ := I
  have hs : mS2 w0 w := mS2.of F.1
  have hg : gRep w a1 A := gRep_fr F (by omega) h0
  obtain ⟨-, k1', k2'⟩ := ok g hg3
  have hcg : hai w (a1 + 3) (nI g).toNatClampNeg = nI (cG A g) := by rw [m_cl (by omega)]; exact gRep_c hg ok hg3
  have hc : ¬ hai w (a1 + 3) (nI g).toNatClampNeg ≤ nI v → v < cG A g := fun c => by rw [hcg, m_le (by omega) (by omega)] at c; omega
  have hq : hal w (a0 + 16) = hal w0 (a0 + 16) := F.hal (by omega)
  have hclg : (nI g).toNatClampNeg = g := m_cl (by omega)
  have K : v < cG A g → ∀ w2 : mH, w2 = sai w (a0 + 17) (nI g).toNatClampNeg (nI v) → mFr (a0 + 17) (a0 + 18) w0 w2 ∧ vX9_costAtIndexes w2 (a0 + 17) (a1 + 3) (a0 + 16) = rowQ (hal w0 (a0 + 16)) A x g v ∧ vp_in (((((hai w2 (a0 + 17) 0) * (hai w2 (a1 + 3) 1)) + (hai w2 (a0 + 17) 1)) * (hai w2 (a1 + 3) 2)) + (hai w2 (a0 + 17) 2)) 216 := by
    intro hv w2 e2
    rw [hclg] at e2
    have F2 : mFr (a0 + 17) (a0 + 18) w0 w2 := by rw [e2]; exact mFr_sai F (by omega) (by omega)
    have i2 := iX_set hu e2
    rw [xs_xs] at i2
    have hg2 : gRep w2 a1 A := gRep_fr F2 (by omega) h0
    refine ⟨F2, ?_, inX_v hg2 ok (xs_ok hx hv) i2⟩
    rw [costX_v hg2 ok (xs_ok hx hv) i2, F2.hal (by omega)]
    rfl
  have K2 : ∀ w2 : mH, w2 = sai w (a0 + 17) g (nI v) → iX w2 a0 (xs x g v) := by
    intro w2 e2
    have i2 := iX_set hu e2
    rw [xs_xs] at i2
    exact i2
  refine gX9_takeBestOfRow_23 (a1_2 := a1 + 3) (a0_3 := a0 + 17) (a0_2 := a0 + 16) ((zGrid_s2 hs z1).1) ((zGrid_s2 hs z1).2.2.2.1) ((zGrid_s2 hs z1).2.2.2.2.2.2) (by intros; exact m_vp (by omega) (by omega)) ((zTun_s2 hs z0).1) ((zTun_s2 hs z0).2.2.2.2.1) ((zTun_s2 hs z0).2.2.2.2.2.2.2.2) (by intros; exact m_vp (by omega) (by omega)) (by intros; exact m_vp (by omega) (by omega)) (by intros; unfold vp_in; decide) (by intros; unfold vp_in; decide) (by intros; unfold vp_in; decide) (by intros; unfold vp_in; decide) (by intros; unfold vp_in; decide) ((zTun_s2 hs z0).2.2.2.1) ((zTun_s2 hs z0).2.2.2.2.2.2.2.1) (by intro c1 w2 e2 _; exact (K (hc c1) w2 e2).2.2) ?_ ?_ ?_ ?_
  · intro c1 w1 e1
    rw [hcg, m_le (by omega) (by omega)] at c1
    have hv : v = cG A g := by omega
    rw [hclg] at e1
    have i1 := iX_set hu e1
    rw [xs_xs] at i1
    exact hΦ hv w1 (by rw [e1]; exact mFr_sai F (by omega) (by omega)) i1
  · intro c1 w2 e2 c2
    have hv := hc c1
    obtain ⟨F2, e4, -⟩ := K hv w2 e2
    rw [hclg] at e2
    have hv0 : v = 0 := (nI_eq (b := 0) (by omega) (by omega)).mp c2
    have hbb : fBest (rowQ (hal w0 (a0 + 16)) A x g) (v + 1) = v := by rw [fBest, if_pos hv0]; omega
    rw [nI_1, e4]
    exact ih hv w2 v _ ⟨F2, v, K2 w2 e2⟩ hbb.symm rfl
  · intro c1 w2 e2 c2 c3
    have hv := hc c1
    obtain ⟨F2, e4, -⟩ := K hv w2 e2
    rw [hclg] at e2
    have hv0 : ¬ v = 0 := fun h => c2 (by rw [h]; rfl)
    rw [e4, hl (by omega), lg_cmp_ge] at c3
    have hbb : fBest (rowQ (hal w0 (a0 + 16)) A x g) (v + 1) = bst := by rw [fBest, if_neg hv0, ← hb, if_neg (Int64.not_lt.mpr c3)]
    rw [nI_1]
    exact ih hv w2 bst _ ⟨F2, v, K2 w2 e2⟩ hbb.symm (hl (by omega))
  · intro c1 w2 e2 c2 c3
    have hv := hc c1
    obtain ⟨F2, e4, -⟩ := K hv w2 e2
    rw [hclg] at e2
    have hv0 : ¬ v = 0 := fun h => c2 (by rw [h]; rfl)
    rw [e4, hl (by omega), lg_cmp_ge] at c3
    have hbb : fBest (rowQ (hal w0 (a0 + 16)) A x g) (v + 1) = v := by rw [fBest, if_neg hv0, ← hb, if_pos (Int64.not_le.mp c3)]
    rw [nI_1, e4]
    exact ih hv w2 v _ ⟨F2, v, K2 w2 e2⟩ hbb.symm rfl
theorem rX9_takeBestOfRow {G : mG} {w : mH} {a0 a1 g : Nat} {x2 : Int32} {A : Nat → Int32} {x : Nat → Nat} (z0 : zTun w a0) (z1 : zGrid w a1) (hd1 : a0 + 18 ≤ a1 ∨ a1 + 4 ≤ a0) (h0 : gRep w a1 A) (ok : gOK A) (hx : xOK A x) (hg3 : g < 3) (hg2 : x2 = nI g) (hi : iX w a0 x) : mC G mX9_takeBestOfRow 4 0 0 [.ref a0, .ref a1, .int x2] w (mP (some (.long (hal w (a0 + 16) (fx A (xs x g (bRow (hal w (a0 + 16)) A x g)))))) (fun w' => mFr (a0 + 17) (a0 + 18) w w' ∧ iX w' a0 (xs x g (bRow (hal w (a0 + 16)) A x g)))) := by
  subst hg2
  obtain ⟨-, k1', k2'⟩ := ok g hg3
  have hw : ¬ vX10_isWithin (nI g) 0 2 = 0 := by
    rw [show (0 : Int32) = nI 0 from rfl, show (2 : Int32) = nI 2 from rfl, m_in (by omega) (by omega) (by omega)]; decide
  refine mC_of (by decide +kernel) rfl (Nat.le_of_ble_eq_true rfl) rfl ?_
  refine gX9_takeBestOfRow_0 (a0_3 := a0 + 17) (a1_2 := a1 + 3) (a0_2 := a0 + 16) z0.1 z0.2.2.2.2.1 z0.2.2.2.2.2.2.2.2 (by intros; unfold vp_in; decide) z1.1 z1.2.2.2.1 z1.2.2.2.2.2.2 (by intros; unfold vp_in; decide) (by intros; unfold vp_in; decide) (by intros; unfold vp_in; decide) (by intros; unfold vp_in; decide) z0.2.2.2.1 z0.2.2.2.2.2.2.2.1 (by intro c1; exact absurd c1 hw) ?_ ?_
  · intro c1
    have I0 : bInv w w a0 A x g 0 := ⟨mFr.rf, x g, by
      have e : xs x g (x g) = x := by funext h; unfold xs; split <;> simp_all
      rw [e]; exact hi⟩
    have key := m_up0 (N := cG A g) (P := fun v => ∀ w' bst lst, bInv w w' a0 A x g v → bst = fBest (rowQ (hal w (a0 + 16)) A x g) v → (0 < v → lst = rowQ (hal w (a0 + 16)) A x g bst) → mW G mX9_takeBestOfRow 4 0 0 23 [(0, .ref a0), (1, .ref a1), (2, .int (nI g)), (3, .int (nI bst)), (4, .long lst), (6, .int (nI v))] [] w' (mP (some (.long (hal w (a0 + 16) (fx A (xs x g (bRow (hal w (a0 + 16)) A x g)))))) (fun w' => mFr (a0 + 17) (a0 + 18) w w' ∧ iX w' a0 (xs x g (bRow (hal w (a0 + 16)) A x g))))) ?_ ?_ 0 (by omega)
    · exact key w 0 0 I0 rfl (fun h => absurd h (Nat.lt_irrefl _))
    · intro w' bst lst I hb hl
      refine best_body z0 z1 hd1 h0 ok hx hg3 I (Nat.le_refl _) hb hl (fun h => absurd h (Nat.lt_irrefl _)) (fun _ w2 f2 i2 => ?_)
      have e1 := hl (by omega)
      subst hb
      rw [e1]
      exact mP_of ⟨f2, i2⟩
    · intro v hv ih w' bst lst I hb hl
      exact best_body z0 z1 hd1 h0 ok hx hg3 I (by omega) hb hl (fun _ w2 b2 l2 I2 hb2 hl2 => ih w2 b2 l2 I2 hb2 (fun _ => hl2)) (fun h => by omega)
  · intro c1; exact absurd c1 hw
