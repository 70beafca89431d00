/-! class Table, its writing methods; the row A of the reference as what is meant -/
def fIn2 (A : Nat → Int32) (k : Nat) (pl v : Int32) : Nat → Int32 := upd (upd A (30 + 2 * k) pl) (30 + 2 * k + 1) v
def fIns (pl : Int32) : Nat → (Nat → Int32) → (Nat → Int32) × Nat
  | 0, A => (A, 0)
  | k + 1, A => if A (30 + 2 * k) ≤ pl then (A, k + 1) else fIns pl k (upd (upd A (30 + 2 * (k + 1)) (A (30 + 2 * k))) (30 + 2 * (k + 1) + 1) (A (30 + 2 * k + 1)))
def nPt (A : Nat → Int32) : Nat := (A 29).toNatClampNeg
def fAt (A : Nat → Int32) (pl : Int32) : Int32 := fIdx (rX A) pl (nPt A) 0
def fPut (A : Nat → Int32) (pl v : Int32) : Nat → Int32 := if fAt A pl < 0 then fIn2 (fIns pl (nPt A) (upd A 29 (A 29 + 1))).1 (fIns pl (nPt A) (upd A 29 (A 29 + 1))).2 pl v else fIn2 A (fAt A pl).toNatClampNeg pl v
def fDel : Nat → Nat → (Nat → Int32) → (Nat → Int32)
  | 0, _, A => A
  | j + 1, k, A => fDel j (k + 1) (upd (upd A (30 + 2 * k) (A (30 + 2 * (k + 1)))) (30 + 2 * k + 1) (A (30 + 2 * (k + 1) + 1)))
def fCut (A : Nat → Int32) (k : Nat) : Nat → Int32 := upd (fDel (nPt A - 1 - k) k A) 29 (A 29 - 1)
theorem fIdx_congr {X X' : Nat → Int32} {x : Int32} : ∀ j i, (∀ q, i ≤ q → q < i + j → X q = X' q) → fIdx X x j i = fIdx X' x j i
  | 0, i, _ => rfl
  | j + 1, i, h => by
    rw [fIdx, fIdx, h i (Nat.le_refl _) (by omega), fIdx_congr j (i + 1) (fun q h1 h2 => h q (by omega) (by omega))]
theorem fIdx_spec {X : Nat → Int32} {x : Int32} : ∀ j i, (fIdx X x j i = -1 ∧ ∀ q, i ≤ q → q < i + j → X q ≠ x) ∨ ∃ q, i ≤ q ∧ q < i + j ∧ X q = x ∧ fIdx X x j i = nI q
  | 0, i => Or.inl ⟨rfl, fun q h1 h2 => by omega⟩
  | j + 1, i => by
    rw [fIdx]
    by_cases h : X i = x
    · rw [if_pos h]
      exact Or.inr ⟨i, Nat.le_refl _, by omega, h, rfl⟩
    · rw [if_neg h]
      rcases fIdx_spec (X := X) (x := x) j (i + 1) with ⟨h1, h2⟩ | ⟨q, h1, h2, h3, h4⟩
      · refine Or.inl ⟨h1, fun q g1 g2 => ?_⟩
        rcases Nat.lt_or_ge i q with h' | h'
        · exact h2 q (by omega) (by omega)
        · have : q = i := by omega
          subst this; exact h
      · exact Or.inr ⟨q, by omega, by omega, h3, h4⟩
theorem fIns_out (pl : Int32) : ∀ k A j, (j < 30 ∨ 30 + 2 * k + 2 ≤ j) → (fIns pl k A).1 j = A j ∧ (fIns pl k A).2 ≤ k
  | 0, A, j, _ => ⟨rfl, Nat.le_refl _⟩
  | k + 1, A, j, h => by
    rw [fIns]
    split
    · exact ⟨rfl, Nat.le_refl _⟩
    · obtain ⟨h1, h2⟩ := fIns_out pl k (upd (upd A (30 + 2 * (k + 1)) (A (30 + 2 * k))) (30 + 2 * (k + 1) + 1) (A (30 + 2 * k + 1))) j (by omega)
      refine ⟨?_, by omega⟩
      rw [h1]
      simp only [upd, show ¬ j = 30 + 2 * (k + 1) + 1 by omega, show ¬ j = 30 + 2 * (k + 1) by omega, if_false]
theorem fIn2_out {A : Nat → Int32} {k j : Nat} {pl v : Int32} (h : j < 30 ∨ 30 + 2 * k + 2 ≤ j) : fIn2 A k pl v j = A j := by
  simp only [fIn2, upd, show ¬ j = 30 + 2 * k + 1 by omega, show ¬ j = 30 + 2 * k by omega, if_false]
theorem fIn2_x {A : Nat → Int32} {k i : Nat} {pl v : Int32} : fIn2 A k pl v (30 + 2 * i) = if i = k then pl else A (30 + 2 * i) := by
  simp only [fIn2, upd, show ¬ 30 + 2 * i = 30 + 2 * k + 1 by omega, if_false]
  by_cases h : i = k
  · subst h; simp
  · rw [if_neg (by omega), if_neg h]
theorem fIn2_y {A : Nat → Int32} {k i : Nat} {pl v : Int32} : fIn2 A k pl v (30 + 2 * i + 1) = if i = k then v else A (30 + 2 * i + 1) := by
  simp only [fIn2, upd, show ¬ 30 + 2 * i + 1 = 30 + 2 * k by omega, if_false]
  by_cases h : i = k
  · subst h; simp
  · rw [if_neg (by omega), if_neg h]
theorem fDel_out : ∀ j k A q, (q < 30 ∨ 30 + 2 * (k + j) ≤ q) → fDel j k A q = A q
  | 0, k, A, q, _ => rfl
  | j + 1, k, A, q, h => by
    rw [fDel, fDel_out j (k + 1) _ q (by omega)]
    simp only [upd, show ¬ q = 30 + 2 * k + 1 by omega, show ¬ q = 30 + 2 * k by omega, if_false]
theorem nPt_of {A : Nat → Int32} {n : Nat} (h : A 29 = nI n) (hn : n ≤ 70000) : nPt A = n := by unfold nPt; rw [h]; exact m_cl hn
theorem tRep_at {w : mH} {a : Nat} {A : Nat → Int32} (z : zTab w a) (h : tRep w a A) : bAt w a (a + 1) (a + 2) (nPt A) := by
  obtain ⟨n, h1, h2, h3, h4⟩ := h
  rw [nPt_of h2 (by omega)]
  exact ⟨z.1, z.2.1, z.2.2.2.1, z.2.2.1, z.2.2.2.2, h3, h1⟩
theorem tRep_idx {w : mH} {a : Nat} {A : Nat → Int32} {x : Int32} (h : tRep w a A) : fIdx (hai w (a + 1)) x (nPt A) 0 = fAt A x := by
  obtain ⟨n, h1, h2, h3, h4⟩ := h
  unfold fAt
  rw [nPt_of h2 (by omega)]
  exact fIdx_congr _ _ (fun q _ hq => (h4 q (by omega)).1)
theorem tRep_ok {w : mH} {a : Nat} {A : Nat → Int32} (h : tRep w a A) : sTabOK w a := by
  obtain ⟨n, h1, h2, h3, h4⟩ := h
  unfold sTabOK
  rw [h3, m_cl (by omega)]
  exact ⟨rfl, h1⟩
theorem tRep_n {w : mH} {a : Nat} {A : Nat → Int32} (h : tRep w a A) : hfi w a 2 = nI (nPt A) ∧ nPt A ≤ 5 := by
  obtain ⟨n, h1, h2, h3, h4⟩ := h
  rw [nPt_of h2 (by omega)]
  exact ⟨h3, h1⟩
theorem has_v {w : mH} {a : Nat} {A : Nat → Int32} {x : Int32} (h : tRep w a A) : (vX5_has w a (fAt A x) = 0 ↔ fAt A x < 0) := by
  obtain ⟨h3, h1⟩ := tRep_n h
  unfold vX5_has
  rw [h3]
  rcases fIdx_spec (X := rX A) (x := x) (nPt A) 0 with ⟨e, -⟩ | ⟨q, g1, g2, g3, e⟩
  · rw [show fAt A x = -1 from e, if_pos (by decide)]; exact ⟨fun _ => by decide, fun _ => rfl⟩
  · rw [show fAt A x = nI q from e, if_neg (m_0le (by omega)), if_neg (by rw [m_le (by omega) (by omega)]; omega), if_neg (by rw [m_5 (by omega)]; omega)]
    exact ⟨fun h => by exact absurd h (by decide), fun h => absurd h (m_0le (by omega))⟩
abbrev mX5_hasRoomAt : mM := (yX5_hasRoomAt, cX5_hasRoomAt, 2, (some .boolean), [])
theorem u841 : (Cond.code ⟨"LineFollowerBench$Table", "indexOf", "(I)I"⟩ prog_7_method_3_code 3 (some .int) : Cond) ∈ mTs := mTs_in 841 (by decide +kernel) (by decide +kernel)
theorem co_X5_indexOf : mCode mX5_indexOf := ⟨u841, u73, by decide⟩
theorem u838 : (Cond.methodLink "LineFollowerBench$Table" 22 ⟨"LineFollowerBench$Table", "indexOf", "(I)I"⟩ : Cond) ∈ mTs := mTs_in 838 (by decide +kernel) (by decide +kernel)
theorem u839 : (Cond.instanceMethod ⟨"LineFollowerBench$Table", "indexOf", "(I)I"⟩ : Cond) ∈ mTs := mTs_in 839 (by decide +kernel) (by decide +kernel)
theorem u840 : (Cond.selects "LineFollowerBench$Table" ⟨"LineFollowerBench$Table", "indexOf", "(I)I"⟩ ⟨"LineFollowerBench$Table", "indexOf", "(I)I"⟩ : Cond) ∈ mTs := mTs_in 840 (by decide +kernel) (by decide +kernel)
theorem l_X5_22 : mLinkV "LineFollowerBench$Table" 22 1 mX5_indexOf := ⟨⟨by decide, by decide, by decide +kernel⟩, co_X5_indexOf, u838, u839, u840⟩
theorem u845 : (Cond.code ⟨"LineFollowerBench$Table", "has", "(I)Z"⟩ prog_7_method_2_code 2 (some .boolean) : Cond) ∈ mTs := mTs_in 845 (by decide +kernel) (by decide +kernel)
theorem co_X5_has : mCode mX5_has := ⟨u845, u73, by decide⟩
theorem u842 : (Cond.methodLink "LineFollowerBench$Table" 26 ⟨"LineFollowerBench$Table", "has", "(I)Z"⟩ : Cond) ∈ mTs := mTs_in 842 (by decide +kernel) (by decide +kernel)
theorem u843 : (Cond.instanceMethod ⟨"LineFollowerBench$Table", "has", "(I)Z"⟩ : Cond) ∈ mTs := mTs_in 843 (by decide +kernel) (by decide +kernel)
theorem u844 : (Cond.selects "LineFollowerBench$Table" ⟨"LineFollowerBench$Table", "has", "(I)Z"⟩ ⟨"LineFollowerBench$Table", "has", "(I)Z"⟩ : Cond) ∈ mTs := mTs_in 844 (by decide +kernel) (by decide +kernel)
theorem l_X5_26 : mLinkV "LineFollowerBench$Table" 26 1 mX5_has := ⟨⟨by decide, by decide, by decide +kernel⟩, co_X5_has, u842, u843, u844⟩
set_option maxHeartbeats 4000000 in
set_option maxRecDepth 100000 in
theorem gX5_hasRoomAt_0 {G : mG} {w : mH} {Φ : mF} {a0 : Nat} {x1 : Int32} {p_a0 v_a0 n_a0 : Nat} (h1 : hk w a0 = (5, 0)) (h2 : bAt w a0 p_a0 v_a0 n_a0) (k1 : ((hfi w a0 2) < 5) → Φ (.inl (some (.int 1))) w) (k2 : (¬ ((hfi w a0 2) < 5)) → ((vX5_has w a0 (fIdx (hai w p_a0) x1 n_a0 0)) = 0) → Φ (.inl (some (.int 0))) w) (k3 : (¬ ((hfi w a0 2) < 5)) → (¬ ((vX5_has w a0 (fIdx (hai w p_a0) x1 n_a0 0)) = 0)) → Φ (.inl (some (.int 1))) w) : mW G mX5_hasRoomAt 3 0 0 0 [(0, .ref a0), (1, .int x1)] [] w Φ := by
  refine mW_aload_n (j := 0) dX5_hasRoomAt_0 rfl rfl ?_
  refine mW_get dX5_hasRoomAt_1 f_X5_18 h1 rfl ?_
  refine mW_iconst (v := 5) dX5_hasRoomAt_4 (by decide) ?_
  refine mW_icmp_lt (tgt := 20) dX5_hasRoomAt_5 (by decide) (fun c1 => ?_) (fun c1 => ?_)
  · refine mW_iconst (v := 1) dX5_hasRoomAt_20 (by decide) ?_
    refine mW_goto (tgt := 25) dX5_hasRoomAt_21 (by decide) ?_
    exact mW_zret (ty := .boolean) dX5_hasRoomAt_25 rfl (by first | rfl | decide) (k1 c1)
  · refine mW_aload_n (j := 0) dX5_hasRoomAt_8 rfl rfl ?_
    refine mW_aload_n (j := 0) dX5_hasRoomAt_9 rfl rfl ?_
    refine mW_iload_n (j := 1) dX5_hasRoomAt_10 rfl rfl ?_
    refine mW_callVe (As := [.int x1]) (rest := [.ref a0]) (kc2 := 0) (ks2 := 0) dX5_hasRoomAt_11 l_X5_22 rfl h1 rfl (by decide) (qX5_indexOf (w := w) (a0 := a0) (x1 := x1) h2) (Nat.le_of_ble_eq_true rfl) (by decide) rfl rfl ?_
    refine mW_callVe (As := [.int (fIdx (hai w p_a0) x1 n_a0 0)]) (rest := []) (kc2 := 0) (ks2 := 0) dX5_hasRoomAt_14 l_X5_26 rfl h1 rfl (by decide) (qX5_has (w := w) (a0 := a0) (x1 := (fIdx (hai w p_a0) x1 n_a0 0)) h1) (Nat.le_of_ble_eq_true rfl) (by decide) rfl rfl ?_
    refine mW_if_eq (tgt := 24) dX5_hasRoomAt_17 (by decide) (fun c2 => ?_) (fun c2 => ?_)
    · refine mW_iconst (v := 0) dX5_hasRoomAt_24 (by decide) ?_
      exact mW_zret (ty := .boolean) dX5_hasRoomAt_25 rfl (by first | rfl | decide) (k2 c1 c2)
    · refine mW_iconst (v := 1) dX5_hasRoomAt_20 (by decide) ?_
      refine mW_goto (tgt := 25) dX5_hasRoomAt_21 (by decide) ?_
      exact mW_zret (ty := .boolean) dX5_hasRoomAt_25 rfl (by first | rfl | decide) (k3 c1 c2)
abbrev mX5_insert : mM := (yX5_insert, cX5_insert, 4, none, [])
set_option maxHeartbeats 4000000 in
set_option maxRecDepth 100000 in
theorem gX5_insert_0 {G : mG} {w : mH} {Φ : mF} {a0 : Nat} {x1 x2 : Int32} (h1 : hk w a0 = (5, 0)) (k1 : ∀ w1 : mH, (w1 = sfi w a0 2 ((hfi w a0 2) + 1)) → mW G mX5_insert 2 0 0 15 [(0, .ref a0), (1, .int x1), (2, .int x2), (3, .int (hfi w a0 2))] [] w1 Φ) : mW G mX5_insert 2 0 0 0 [(0, .ref a0), (1, .int x1), (2, .int x2)] [] w Φ := by
  refine mW_aload_n (j := 0) dX5_insert_0 rfl rfl ?_
  refine mW_get dX5_insert_1 f_X5_18 h1 rfl ?_
  refine mW_istore_n (lv2 := [(3, .int (hfi w a0 2)), (0, .ref a0), (1, .int x1), (2, .int x2)]) dX5_insert_4 rfl (by decide) rfl ?_
  refine mW_aload_n (j := 1) dX5_insert_5 rfl rfl ?_
  refine mW_dup dX5_insert_6 rfl ?_
  refine mW_get dX5_insert_7 f_X5_18 h1 rfl ?_
  refine mW_iconst (v := 1) dX5_insert_10 (by decide) ?_
  refine mW_iadd dX5_insert_11 ?_
  refine mW_put (ty := .int) (w2 := sfi w a0 2 ((hfi w a0 2) + 1)) dX5_insert_12 p_X5_18 h1 (Nat.le_of_ble_eq_true rfl) (by first | rfl | decide | (repeat' split) <;> rfl) rfl (hN_sfi _ _ _ _) (hk_sfi _ _ _ _) (mE_sfi h1 (by decide) (ob_5_2 _ _ _)) ?_
  refine mW_nm (fun w1 e1 => ?_)
  refine mW_loc [1, 2, 3, 0] (lv2 := [(0, .ref a0), (1, .int x1), (2, .int x2), (3, .int (hfi w a0 2))]) rfl ?_
  exact k1 w1 e1
set_option maxHeartbeats 4000000 in
set_option maxRecDepth 100000 in
theorem gX5_insert_15 {G : mG} {w : mH} {Φ : mF} {a0 : Nat} {x1 x2 x3 : Int32} {a0_0 n_a0_0 a0_1 n_a0_1 : Nat} (h1 : hk w a0 = (5, 0)) (h2 : hfr w a0 0 = some a0_0) (h3 : hk w a0_0 = (16, n_a0_0)) (s1 : (x3 ≤ 0) → vp_in x3 n_a0_0) (h4 : hfr w a0 1 = some a0_1) (h5 : hk w a0_1 = (16, n_a0_1)) (s2 : (x3 ≤ 0) → ∀ w1 : mH, (w1 = sai w a0_0 x3.toNatClampNeg x1) → vp_in x3 n_a0_1) (s3 : (¬ (x3 ≤ 0)) → vp_in (x3 - 1) n_a0_0) (s4 : (¬ (x3 ≤ 0)) → ((hai w a0_0 ((x3 - 1).toNatClampNeg)) ≤ x1) → vp_in x3 n_a0_0) (s5 : (¬ (x3 ≤ 0)) → ((hai w a0_0 ((x3 - 1).toNatClampNeg)) ≤ x1) → ∀ w3 : mH, (w3 = sai w a0_0 x3.toNatClampNeg x1) → vp_in x3 n_a0_1) (s6 : (¬ (x3 ≤ 0)) → (¬ ((hai w a0_0 ((x3 - 1).toNatClampNeg)) ≤ x1)) → vp_in x3 n_a0_0) (s7 : (¬ (x3 ≤ 0)) → (¬ ((hai w a0_0 ((x3 - 1).toNatClampNeg)) ≤ x1)) → ∀ w5 : mH, (w5 = sai w a0_0 x3.toNatClampNeg (hai w a0_0 ((x3 - 1).toNatClampNeg))) → vp_in (x3 - 1) n_a0_1) (s8 : (¬ (x3 ≤ 0)) → (¬ ((hai w a0_0 ((x3 - 1).toNatClampNeg)) ≤ x1)) → ∀ w5 : mH, (w5 = sai w a0_0 x3.toNatClampNeg (hai w a0_0 ((x3 - 1).toNatClampNeg))) → vp_in x3 n_a0_1) (k1 : (x3 ≤ 0) → ∀ w1 : mH, (w1 = sai w a0_0 x3.toNatClampNeg x1) → ∀ w2 : mH, (w2 = sai w1 a0_1 x3.toNatClampNeg x2) → Φ (.inl none) w2) (k2 : (¬ (x3 ≤ 0)) → ((hai w a0_0 ((x3 - 1).toNatClampNeg)) ≤ x1) → ∀ w3 : mH, (w3 = sai w a0_0 x3.toNatClampNeg x1) → ∀ w4 : mH, (w4 = sai w3 a0_1 x3.toNatClampNeg x2) → Φ (.inl none) w4) (k3 : (¬ (x3 ≤ 0)) → (¬ ((hai w a0_0 ((x3 - 1).toNatClampNeg)) ≤ x1)) → ∀ w5 : mH, (w5 = sai w a0_0 x3.toNatClampNeg (hai w a0_0 ((x3 - 1).toNatClampNeg))) → ∀ w6 : mH, (w6 = sai w5 a0_1 x3.toNatClampNeg (hai w5 a0_1 ((x3 - 1).toNatClampNeg))) → mW G mX5_insert 2 0 0 15 [(0, .ref a0), (1, .int x1), (2, .int x2), (3, .int (x3 + (-1)))] [] w6 Φ) : mW G mX5_insert 2 0 0 15 [(0, .ref a0), (1, .int x1), (2, .int x2), (3, .int x3)] [] w Φ := by
  refine mW_iload_n (j := 3) dX5_insert_15 rfl rfl ?_
  refine mW_if_le (tgt := 65) dX5_insert_16 (by decide) (fun c1 => ?_) (fun c1 => ?_)
  · refine mW_aload_n (j := 0) dX5_insert_65 rfl rfl ?_
    refine mW_getR dX5_insert_66 f_X5_9 h1 rfl h2 ?_
    refine mW_iload_n (j := 3) dX5_insert_69 rfl rfl ?_
    refine mW_iload_n (j := 1) dX5_insert_70 rfl rfl ?_
    refine mW_iastJ dX5_insert_71 h3 (s1 c1) rfl ?_
    refine mW_nm (fun w1 e1 => ?_)
    refine mW_aload_n (j := 0) dX5_insert_72 rfl rfl ?_
    refine mW_getR dX5_insert_73 f_X5_15 (s2k (S2_sai e1) h1) rfl (s2r (S2_sai e1) h4) ?_
    refine mW_iload_n (j := 3) dX5_insert_76 rfl rfl ?_
    refine mW_iload_n (j := 2) dX5_insert_77 rfl rfl ?_
    refine mW_iastJ dX5_insert_78 (s2k (S2_sai e1) h5) (s2 c1 w1 e1) rfl ?_
    refine mW_nm (fun w2 e2 => ?_)
    exact mW_vret dX5_insert_79 rfl (k1 c1 w1 e1 w2 e2)
  · refine mW_aload_n (j := 0) dX5_insert_19 rfl rfl ?_
    refine mW_getR dX5_insert_20 f_X5_9 h1 rfl h2 ?_
    refine mW_iload_n (j := 3) dX5_insert_23 rfl rfl ?_
    refine mW_iconst (v := 1) dX5_insert_24 (by decide) ?_
    refine mW_isub dX5_insert_25 ?_
    refine mW_ialdJ dX5_insert_26 h3 (s3 c1) rfl ?_
    refine mW_iload_n (j := 1) dX5_insert_27 rfl rfl ?_
    refine mW_icmp_le (tgt := 65) dX5_insert_28 (by decide) (fun c2 => ?_) (fun c2 => ?_)
    · refine mW_aload_n (j := 0) dX5_insert_65 rfl rfl ?_
      refine mW_getR dX5_insert_66 f_X5_9 h1 rfl h2 ?_
      refine mW_iload_n (j := 3) dX5_insert_69 rfl rfl ?_
      refine mW_iload_n (j := 1) dX5_insert_70 rfl rfl ?_
      refine mW_iastJ dX5_insert_71 h3 (s4 c1 c2) rfl ?_
      refine mW_nm (fun w3 e3 => ?_)
      refine mW_aload_n (j := 0) dX5_insert_72 rfl rfl ?_
      refine mW_getR dX5_insert_73 f_X5_15 (s2k (S2_sai e3) h1) rfl (s2r (S2_sai e3) h4) ?_
      refine mW_iload_n (j := 3) dX5_insert_76 rfl rfl ?_
      refine mW_iload_n (j := 2) dX5_insert_77 rfl rfl ?_
      refine mW_iastJ dX5_insert_78 (s2k (S2_sai e3) h5) (s5 c1 c2 w3 e3) rfl ?_
      refine mW_nm (fun w4 e4 => ?_)
      exact mW_vret dX5_insert_79 rfl (k2 c1 c2 w3 e3 w4 e4)
    · refine mW_aload_n (j := 0) dX5_insert_31 rfl rfl ?_
      refine mW_getR dX5_insert_32 f_X5_9 h1 rfl h2 ?_
      refine mW_iload_n (j := 3) dX5_insert_35 rfl rfl ?_
      refine mW_aload_n (j := 0) dX5_insert_36 rfl rfl ?_
      refine mW_getR dX5_insert_37 f_X5_9 h1 rfl h2 ?_
      refine mW_iload_n (j := 3) dX5_insert_40 rfl rfl ?_
      refine mW_iconst (v := 1) dX5_insert_41 (by decide) ?_
      refine mW_isub dX5_insert_42 ?_
      refine mW_ialdJ dX5_insert_43 h3 (s3 c1) rfl ?_
      refine mW_iastJ dX5_insert_44 h3 (s6 c1 c2) rfl ?_
      refine mW_nm (fun w5 e5 => ?_)
      refine mW_aload_n (j := 0) dX5_insert_45 rfl rfl ?_
      refine mW_getR dX5_insert_46 f_X5_15 (s2k (S2_sai e5) h1) rfl (s2r (S2_sai e5) h4) ?_
      refine mW_iload_n (j := 3) dX5_insert_49 rfl rfl ?_
      refine mW_aload_n (j := 0) dX5_insert_50 rfl rfl ?_
      refine mW_getR dX5_insert_51 f_X5_15 (s2k (S2_sai e5) h1) rfl (s2r (S2_sai e5) h4) ?_
      refine mW_iload_n (j := 3) dX5_insert_54 rfl rfl ?_
      refine mW_iconst (v := 1) dX5_insert_55 (by decide) ?_
      refine mW_isub dX5_insert_56 ?_
      refine mW_ialdJ dX5_insert_57 (s2k (S2_sai e5) h5) (s7 c1 c2 w5 e5) rfl ?_
      refine mW_iastJ dX5_insert_58 (s2k (S2_sai e5) h5) (s8 c1 c2 w5 e5) rfl ?_
      refine mW_nm (fun w6 e6 => ?_)
      refine mW_iinc (j := 3) (v := x3 + (-1)) (lv2 := [(3, .int (x3 + (-1))), (0, .ref a0), (1, .int x1), (2, .int x2)]) dX5_insert_59 rfl rfl (by decide) rfl ?_
      refine mW_goto (tgt := 15) dX5_insert_62 (by decide) ?_
      refine mW_loc [1, 2, 3, 0] (lv2 := [(0, .ref a0), (1, .int x1), (2, .int x2), (3, .int (x3 + (-1)))]) rfl ?_
      exact k3 c1 c2 w5 e5 w6 e6
abbrev mX5_removeAt : mM := (yX5_removeAt, cX5_removeAt, 3, none, [])
set_option maxHeartbeats 4000000 in
set_option maxRecDepth 100000 in
theorem gX5_removeAt_0 {G : mG} {w : mH} {Φ : mF} {a0 : Nat} {x1 : Int32} (h1 : hk w a0 = (5, 0)) (k1 : (¬ ((vX5_has w a0 x1) = 0)) → mW G mX5_removeAt 2 0 0 11 [(0, .ref a0), (1, .int x1), (2, .int x1)] [] w Φ) (k2 : ((vX5_has w a0 x1) = 0) → Φ (.inl none) w) : mW G mX5_removeAt 2 0 0 0 [(0, .ref a0), (1, .int x1)] [] w Φ := by
  refine mW_aload_n (j := 0) dX5_removeAt_0 rfl rfl ?_
  refine mW_iload_n (j := 1) dX5_removeAt_1 rfl rfl ?_
  refine mW_callVe (As := [.int x1]) (rest := []) (kc2 := 0) (ks2 := 0) dX5_removeAt_2 l_X5_26 rfl h1 rfl (by decide) (qX5_has (w := w) (a0 := a0) (x1 := x1) h1) (Nat.le_of_ble_eq_true rfl) (by decide) rfl rfl ?_
  refine mW_if_ne (tgt := 9) dX5_removeAt_5 (by decide) (fun c1 => ?_) (fun c1 => ?_)
  · refine mW_iload_n (j := 1) dX5_removeAt_9 rfl rfl ?_
    refine mW_istore_n (lv2 := [(2, .int x1), (0, .ref a0), (1, .int x1)]) dX5_removeAt_10 rfl (by decide) rfl ?_
    refine mW_loc [1, 2, 0] (lv2 := [(0, .ref a0), (1, .int x1), (2, .int x1)]) rfl ?_
    exact k1 c1
  · exact mW_vret dX5_removeAt_8 rfl (k2 c1)
set_option maxHeartbeats 4000000 in
set_option maxRecDepth 100000 in
theorem gX5_removeAt_11 {G : mG} {w : mH} {Φ : mF} {a0 : Nat} {x1 x2 : Int32} {a0_0 n_a0_0 a0_1 n_a0_1 : Nat} (h1 : hk w a0 = (5, 0)) (h2 : hfr w a0 0 = some a0_0) (h3 : hk w a0_0 = (16, n_a0_0)) (s1 : (¬ ((hfi w a0 2) ≤ (x2 + 1))) → (¬ (5 ≤ (x2 + 1))) → vp_in (x2 + 1) n_a0_0) (s2 : (¬ ((hfi w a0 2) ≤ (x2 + 1))) → (¬ (5 ≤ (x2 + 1))) → vp_in x2 n_a0_0) (h4 : hfr w a0 1 = some a0_1) (h5 : hk w a0_1 = (16, n_a0_1)) (s3 : (¬ ((hfi w a0 2) ≤ (x2 + 1))) → (¬ (5 ≤ (x2 + 1))) → ∀ w3 : mH, (w3 = sai w a0_0 x2.toNatClampNeg (hai w a0_0 ((x2 + 1).toNatClampNeg))) → vp_in (x2 + 1) n_a0_1) (s4 : (¬ ((hfi w a0 2) ≤ (x2 + 1))) → (¬ (5 ≤ (x2 + 1))) → ∀ w3 : mH, (w3 = sai w a0_0 x2.toNatClampNeg (hai w a0_0 ((x2 + 1).toNatClampNeg))) → vp_in x2 n_a0_1) (k1 : ((hfi w a0 2) ≤ (x2 + 1)) → ∀ w1 : mH, (w1 = sfi w a0 2 ((hfi w a0 2) - 1)) → Φ (.inl none) w1) (k2 : (¬ ((hfi w a0 2) ≤ (x2 + 1))) → (5 ≤ (x2 + 1)) → ∀ w2 : mH, (w2 = sfi w a0 2 ((hfi w a0 2) - 1)) → Φ (.inl none) w2) (k3 : (¬ ((hfi w a0 2) ≤ (x2 + 1))) → (¬ (5 ≤ (x2 + 1))) → ∀ w3 : mH, (w3 = sai w a0_0 x2.toNatClampNeg (hai w a0_0 ((x2 + 1).toNatClampNeg))) → ∀ w4 : mH, (w4 = sai w3 a0_1 x2.toNatClampNeg (hai w3 a0_1 ((x2 + 1).toNatClampNeg))) → mW G mX5_removeAt 2 0 0 11 [(0, .ref a0), (1, .int x1), (2, .int (x2 + 1))] [] w4 Φ) : mW G mX5_removeAt 2 0 0 11 [(0, .ref a0), (1, .int x1), (2, .int x2)] [] w Φ := by
  refine mW_iload_n (j := 2) dX5_removeAt_11 rfl rfl ?_
  refine mW_iconst (v := 1) dX5_removeAt_12 (by decide) ?_
  refine mW_iadd dX5_removeAt_13 ?_
  refine mW_aload_n (j := 0) dX5_removeAt_14 rfl rfl ?_
  refine mW_get dX5_removeAt_15 f_X5_18 h1 rfl ?_
  refine mW_icmp_ge (tgt := 62) dX5_removeAt_18 (by decide) (fun c1 => ?_) (fun c1 => ?_)
  · refine mW_aload_n (j := 0) dX5_removeAt_62 rfl rfl ?_
    refine mW_dup dX5_removeAt_63 rfl ?_
    refine mW_get dX5_removeAt_64 f_X5_18 h1 rfl ?_
    refine mW_iconst (v := 1) dX5_removeAt_67 (by decide) ?_
    refine mW_isub dX5_removeAt_68 ?_
    refine mW_put (ty := .int) (w2 := sfi w a0 2 ((hfi w a0 2) - 1)) dX5_removeAt_69 p_X5_18 h1 (Nat.le_of_ble_eq_true rfl) (by first | rfl | decide | (repeat' split) <;> rfl) rfl (hN_sfi _ _ _ _) (hk_sfi _ _ _ _) (mE_sfi h1 (by decide) (ob_5_2 _ _ _)) ?_
    refine mW_nm (fun w1 e1 => ?_)
    exact mW_vret dX5_removeAt_72 rfl (k1 c1 w1 e1)
  · refine mW_iload_n (j := 2) dX5_removeAt_21 rfl rfl ?_
    refine mW_iconst (v := 1) dX5_removeAt_22 (by decide) ?_
    refine mW_iadd dX5_removeAt_23 ?_
    refine mW_iconst (v := 5) dX5_removeAt_24 (by decide) ?_
    refine mW_icmp_ge (tgt := 62) dX5_removeAt_25 (by decide) (fun c2 => ?_) (fun c2 => ?_)
    · refine mW_aload_n (j := 0) dX5_removeAt_62 rfl rfl ?_
      refine mW_dup dX5_removeAt_63 rfl ?_
      refine mW_get dX5_removeAt_64 f_X5_18 h1 rfl ?_
      refine mW_iconst (v := 1) dX5_removeAt_67 (by decide) ?_
      refine mW_isub dX5_removeAt_68 ?_
      refine mW_put (ty := .int) (w2 := sfi w a0 2 ((hfi w a0 2) - 1)) dX5_removeAt_69 p_X5_18 h1 (Nat.le_of_ble_eq_true rfl) (by first | rfl | decide | (repeat' split) <;> rfl) rfl (hN_sfi _ _ _ _) (hk_sfi _ _ _ _) (mE_sfi h1 (by decide) (ob_5_2 _ _ _)) ?_
      refine mW_nm (fun w2 e2 => ?_)
      exact mW_vret dX5_removeAt_72 rfl (k2 c1 c2 w2 e2)
    · refine mW_aload_n (j := 0) dX5_removeAt_28 rfl rfl ?_
      refine mW_getR dX5_removeAt_29 f_X5_9 h1 rfl h2 ?_
      refine mW_iload_n (j := 2) dX5_removeAt_32 rfl rfl ?_
      refine mW_aload_n (j := 0) dX5_removeAt_33 rfl rfl ?_
      refine mW_getR dX5_removeAt_34 f_X5_9 h1 rfl h2 ?_
      refine mW_iload_n (j := 2) dX5_removeAt_37 rfl rfl ?_
      refine mW_iconst (v := 1) dX5_removeAt_38 (by decide) ?_
      refine mW_iadd dX5_removeAt_39 ?_
      refine mW_ialdJ dX5_removeAt_40 h3 (s1 c1 c2) rfl ?_
      refine mW_iastJ dX5_removeAt_41 h3 (s2 c1 c2) rfl ?_
      refine mW_nm (fun w3 e3 => ?_)
      refine mW_aload_n (j := 0) dX5_removeAt_42 rfl rfl ?_
      refine mW_getR dX5_removeAt_43 f_X5_15 (s2k (S2_sai e3) h1) rfl (s2r (S2_sai e3) h4) ?_
      refine mW_iload_n (j := 2) dX5_removeAt_46 rfl rfl ?_
      refine mW_aload_n (j := 0) dX5_removeAt_47 rfl rfl ?_
      refine mW_getR dX5_removeAt_48 f_X5_15 (s2k (S2_sai e3) h1) rfl (s2r (S2_sai e3) h4) ?_
      refine mW_iload_n (j := 2) dX5_removeAt_51 rfl rfl ?_
      refine mW_iconst (v := 1) dX5_removeAt_52 (by decide) ?_
      refine mW_iadd dX5_removeAt_53 ?_
      refine mW_ialdJ dX5_removeAt_54 (s2k (S2_sai e3) h5) (s3 c1 c2 w3 e3) rfl ?_
      refine mW_iastJ dX5_removeAt_55 (s2k (S2_sai e3) h5) (s4 c1 c2 w3 e3) rfl ?_
      refine mW_nm (fun w4 e4 => ?_)
      refine mW_iinc (j := 2) (v := x2 + 1) (lv2 := [(2, .int (x2 + 1)), (0, .ref a0), (1, .int x1)]) dX5_removeAt_56 rfl rfl (by decide) rfl ?_
      refine mW_goto (tgt := 11) dX5_removeAt_59 (by decide) ?_
      refine mW_loc [1, 2, 0] (lv2 := [(0, .ref a0), (1, .int x1), (2, .int (x2 + 1))]) rfl ?_
      exact k3 c1 c2 w3 e3 w4 e4
theorem rX5_hasRoomAt {G : mG} {w : mH} {a0 : Nat} {x1 : Int32} {A : Nat → Int32} (z : zTab w a0) (h : tRep w a0 A) : mC G mX5_hasRoomAt 3 0 0 [.ref a0, .int x1] w (mEq (.inl (some (.int (if nPt A < 5 then 1 else if fAt A x1 < 0 then 0 else 1)))) w) := by
  obtain ⟨h3, h1⟩ := tRep_n h
  have hv := has_v (x := x1) h
  rw [← tRep_idx h] at hv
  refine mC_of (by decide +kernel) rfl (Nat.le_of_ble_eq_true rfl) rfl ?_
  refine gX5_hasRoomAt_0 z.1 (tRep_at z h) (fun c1 => ⟨?_, rfl⟩) (fun c1 c2 => ⟨?_, rfl⟩) (fun c1 c2 => ⟨?_, rfl⟩)
  all_goals rw [h3, show (5 : Int32) = nI 5 from rfl, m_lt (by omega) (by omega)] at c1
  · rw [if_pos c1]
  · rw [if_neg c1, ← tRep_idx h, if_pos (hv.mp c2)]
  · rw [if_neg c1, ← tRep_idx h, if_neg (fun q => c2 (hv.mpr q))]
def tH (w : mH) (a : Nat) (A : Nat → Int32) (k n : Nat) : Prop := hfi w a 2 = nI (n + 1) ∧ A 29 = nI (n + 1) ∧ ∀ i, i ≤ n → i ≠ k → hai w (a + 1) i = A (30 + 2 * i) ∧ hai w (a + 2) i = A (30 + 2 * i + 1)
theorem ins_end {w w1 w2 : mH} {a k n : Nat} {A : Nat → Int32} {pl v : Int32} (T : tH w a A k n) (hk : k ≤ n) (hn : n < 5) (e1 : w1 = sai w (a + 1) k pl) (e2 : w2 = sai w1 (a + 2) k v) : tRep w2 a (fIn2 A k pl v) := by
  obtain ⟨t1, t2, t3⟩ := T
  refine ⟨n + 1, by omega, ?_, ?_, fun i hi => ?_⟩
  · rw [fIn2_out (by omega)]; exact t2
  · rw [e2, e_hfi_sai, e1, e_hfi_sai]; exact t1
  · rw [fIn2_x, fIn2_y, e2, e_hai_sai, up2_a _ _ _ (by omega), e1, e_hai_sai]
    by_cases h : i = k
    · subst h
      rw [up2_at, up2_at, if_pos rfl, if_pos rfl]
      exact ⟨rfl, rfl⟩
    · rw [up2_k _ _ _ h, up2_k _ _ _ h, up2_a _ _ _ (by omega), if_neg h, if_neg h]
      exact t3 i (by omega) h
theorem ins_loop {G : mG} {w0 : mH} {a n : Nat} {pl v : Int32} (hn : n < 5) (z0 : zTab w0 a) : ∀ k A w, k ≤ n → mFr a (a + 3) w0 w → tH w a A k n → mW G mX5_insert 2 0 0 15 [(0, .ref a), (1, .int pl), (2, .int v), (3, .int (nI k))] [] w (mP none (fun w' => mFr a (a + 3) w0 w' ∧ tRep w' a (fIn2 (fIns pl k A).1 (fIns pl k A).2 pl v))) := by
  intro k
  induction k with
  | zero =>
    intro A w hk F T
    have hs := mS2.of F.1
    refine gX5_insert_15 (a0_0 := a + 1) (a0_1 := a + 2) ((zTab_s2 hs z0).1) ((zTab_s2 hs z0).2.1) ((zTab_s2 hs z0).2.2.2.1) (by intros; exact m_vp (a := 0) (by omega) (by omega)) ((zTab_s2 hs z0).2.2.1) ((zTab_s2 hs z0).2.2.2.2) (by intros; exact m_vp (a := 0) (by omega) (by omega)) (by intro c1; exact absurd (by decide) c1) (by intro c1; exact absurd (by decide) c1) (by intro c1; exact absurd (by decide) c1) (by intro c1; exact absurd (by decide) c1) (by intro c1; exact absurd (by decide) c1) (by intro c1; exact absurd (by decide) c1) ?_ ?_ ?_
    · intro c1 w1 e1 w2 e2
      refine mP_of ⟨?_, ins_end T hk hn e1 e2⟩
      rw [e2, e1]
      exact mFr_sai (mFr_sai F (by omega) (by omega)) (by omega) (by omega)
    all_goals (intro c1; exact absurd (by decide) c1)
  | succ k ih =>
    intro A w hk F T
    have hs := mS2.of F.1
    have hc : ¬ nI (k + 1) ≤ 0 := by rw [m_le0 (by omega)]; omega
    have e9 : (nI (k + 1) - 1).toNatClampNeg = k := by rw [m_sub1]; exact m_cl (by omega)
    have e8 : (nI (k + 1)).toNatClampNeg = k + 1 := m_cl (by omega)
    have ex : hai w (a + 1) k = A (30 + 2 * k) := (T.2.2 k (by omega) (by omega)).1
    refine gX5_insert_15 (a0_0 := a + 1) (a0_1 := a + 2) ((zTab_s2 hs z0).1) ((zTab_s2 hs z0).2.1) ((zTab_s2 hs z0).2.2.2.1) (by intros; exact m_vp (by omega) (by omega)) ((zTab_s2 hs z0).2.2.1) ((zTab_s2 hs z0).2.2.2.2) (by intros; exact m_vp (by omega) (by omega)) (by intros; rw [m_sub1]; exact m_vp (by omega) (by omega)) (by intros; exact m_vp (by omega) (by omega)) (by intros; exact m_vp (by omega) (by omega)) (by intros; exact m_vp (by omega) (by omega)) (by intros; rw [m_sub1]; exact m_vp (by omega) (by omega)) (by intros; exact m_vp (by omega) (by omega)) ?_ ?_ ?_
    · intro c1; exact absurd c1 hc
    · intro c1 c2 w1 e1 w2 e2
      rw [e9, ex] at c2
      rw [e8] at e1 e2
      rw [fIns, if_pos c2]
      refine mP_of ⟨?_, ins_end T hk hn e1 e2⟩
      rw [e2, e1]
      exact mFr_sai (mFr_sai F (by omega) (by omega)) (by omega) (by omega)
    · intro c1 c2 w1 e1 w2 e2
      rw [e9, ex] at c2
      rw [e8, e9, ex] at e1
      rw [e8, e9] at e2
      rw [fIns, if_neg c2, pk_m1]
      have F2 : mFr a (a + 3) w0 w2 := by
        rw [e2, e1]
        exact mFr_sai (mFr_sai F (by omega) (by omega)) (by omega) (by omega)
      have ey : hai w1 (a + 2) k = A (30 + 2 * k + 1) := by
        rw [e1, e_hai_sai, up2_a _ _ _ (by omega)]
        exact (T.2.2 k (by omega) (by omega)).2
      rw [ey] at e2
      refine ih _ w2 (by omega) F2 ⟨?_, ?_, fun i hi hik => ?_⟩
      · rw [e2, e_hfi_sai, e1, e_hfi_sai]; exact T.1
      · simp only [upd, show ¬ 29 = 30 + 2 * (k + 1) + 1 by omega, show ¬ 29 = 30 + 2 * (k + 1) by omega, if_false]; exact T.2.1
      · rw [e2, e_hai_sai, up2_a _ _ _ (by omega), e1, e_hai_sai]
        by_cases h : i = k + 1
        · subst h
          rw [up2_at, up2_at]
          simp [upd]
        · rw [up2_k _ _ _ h, up2_k _ _ _ h, up2_a _ _ _ (by omega)]
          simp only [upd, show ¬ 30 + 2 * i = 30 + 2 * (k + 1) + 1 by omega, show ¬ 30 + 2 * i = 30 + 2 * (k + 1) by omega, show ¬ 30 + 2 * i + 1 = 30 + 2 * (k + 1) + 1 by omega, show ¬ 30 + 2 * i + 1 = 30 + 2 * (k + 1) by omega, if_false]
          exact T.2.2 i hi h
theorem rX5_insert {G : mG} {w : mH} {a0 : Nat} {x1 x2 : Int32} {A : Nat → Int32} (z0 : zTab w a0) (h : tRep w a0 A) (h5 : nPt A < 5) : mC G mX5_insert 2 0 0 [.ref a0, .int x1, .int x2] w (mP none (fun w' => mFr a0 (a0 + 3) w w' ∧ tRep w' a0 (fIn2 (fIns x1 (nPt A) (upd A 29 (A 29 + 1))).1 (fIns x1 (nPt A) (upd A 29 (A 29 + 1))).2 x1 x2))) := by
  obtain ⟨n, h1, h2, h3, h4⟩ := h
  rw [nPt_of h2 (by omega)] at *
  refine mC_of (by decide +kernel) rfl (Nat.le_of_ble_eq_true rfl) rfl ?_
  refine gX5_insert_0 z0.1 ?_
  intro w1 e1
  rw [h3]
  rw [h3, nI_1] at e1
  have F : mFr a0 (a0 + 3) w w1 := by rw [e1]; exact mFr_sfi mFr.rf (by omega) (by omega)
  refine ins_loop h5 z0 n _ w1 (Nat.le_refl _) F ⟨?_, ?_, fun i hi hin => ?_⟩
  · rw [e1, e_hfi_sfi, up2_at]
  · rw [h2, nI_1]; simp [upd]
  · rw [e1, e_hai_sfi]
    simp only [upd, show ¬ 30 + 2 * i = 29 by omega, show ¬ 30 + 2 * i + 1 = 29 by omega, if_false]
    exact h4 i (by omega)
theorem del_loop {G : mG} {w0 : mH} {a n : Nat} {x1 : Int32} (hn : n ≤ 5) (z0 : zTab w0 a) : ∀ j k A w, k + 1 + j = n → mFr a (a + 3) w0 w → A 29 = nI n → hfi w a 2 = nI n → (∀ i, i < n → hai w (a + 1) i = A (30 + 2 * i) ∧ hai w (a + 2) i = A (30 + 2 * i + 1)) → mW G mX5_removeAt 2 0 0 11 [(0, .ref a), (1, .int x1), (2, .int (nI k))] [] w (mP none (fun w' => mFr a (a + 3) w0 w' ∧ tRep w' a (upd (fDel j k A) 29 (A 29 - 1)))) := by
  intro j
  induction j with
  | zero =>
    intro k A w hk F h2 h3 h4
    have hs := mS2.of F.1
    have hc : hfi w a 2 ≤ nI k + 1 := by rw [h3, nI_1, m_le (by omega) (by omega)]; omega
    refine gX5_removeAt_11 (a0_0 := a + 1) (a0_1 := a + 2) ((zTab_s2 hs z0).1) ((zTab_s2 hs z0).2.1) ((zTab_s2 hs z0).2.2.2.1) (by intro c1; exact absurd hc c1) (by intro c1; exact absurd hc c1) ((zTab_s2 hs z0).2.2.1) ((zTab_s2 hs z0).2.2.2.2) (by intro c1; exact absurd hc c1) (by intro c1; exact absurd hc c1) ?_ ?_ ?_
    · intro c1 w1 e1
      obtain ⟨n', rfl⟩ : ∃ n', n = n' + 1 := ⟨n - 1, by omega⟩
      rw [h3, m_sub1] at e1
      refine mP_of ⟨by rw [e1]; exact mFr_sfi F (by omega) (by omega), n', by omega, ?_, ?_, fun i hi => ?_⟩
      · rw [h2, m_sub1]; simp [upd]
      · rw [e1, e_hfi_sfi, up2_at]
      · rw [e1, e_hai_sfi]
        simp only [upd, show ¬ 30 + 2 * i = 29 by omega, show ¬ 30 + 2 * i + 1 = 29 by omega, if_false, fDel]
        exact h4 i (by omega)
    all_goals (intro c1; exact absurd hc c1)
  | succ j ih =>
    intro k A w hk F h2 h3 h4
    have hs := mS2.of F.1
    have hc : ¬ hfi w a 2 ≤ nI k + 1 := by rw [h3, nI_1, m_le (by omega) (by omega)]; omega
    have e8 : (nI k).toNatClampNeg = k := m_cl (by omega)
    have e9 : (nI k + 1).toNatClampNeg = k + 1 := by rw [nI_1]; exact m_cl (by omega)
    refine gX5_removeAt_11 (a0_0 := a + 1) (a0_1 := a + 2) ((zTab_s2 hs z0).1) ((zTab_s2 hs z0).2.1) ((zTab_s2 hs z0).2.2.2.1) (by intros; rw [nI_1]; exact m_vp (by omega) (by omega)) (by intros; exact m_vp (by omega) (by omega)) ((zTab_s2 hs z0).2.2.1) ((zTab_s2 hs z0).2.2.2.2) (by intros; rw [nI_1]; exact m_vp (by omega) (by omega)) (by intros; exact m_vp (by omega) (by omega)) ?_ ?_ ?_
    · intro c1; exact absurd c1 hc
    · intro c1 c2
      rw [nI_1, m_5 (by omega)] at c2; omega
    · intro c1 c2 w1 e1 w2 e2
      rw [e8, e9, (h4 (k + 1) (by omega)).1] at e1
      rw [e8, e9] at e2
      have ey : hai w1 (a + 2) (k + 1) = A (30 + 2 * (k + 1) + 1) := by
        rw [e1, e_hai_sai, up2_a _ _ _ (by omega)]
        exact (h4 (k + 1) (by omega)).2
      rw [ey] at e2
      have F2 : mFr a (a + 3) w0 w2 := by
        rw [e2, e1]
        exact mFr_sai (mFr_sai F (by omega) (by omega)) (by omega) (by omega)
      have e29 : (upd (upd A (30 + 2 * k) (A (30 + 2 * (k + 1)))) (30 + 2 * k + 1) (A (30 + 2 * (k + 1) + 1))) 29 = A 29 := by
        simp only [upd, show ¬ 29 = 30 + 2 * k + 1 by omega, show ¬ 29 = 30 + 2 * k by omega, if_false]
      rw [nI_1, fDel]
      have := ih (k + 1) _ w2 (by omega) F2 (e29.trans h2) (by rw [e2, e_hfi_sai, e1, e_hfi_sai]; exact h3) (fun i hi => ?_)
      · rw [e29] at this
        exact this
      · rw [e2, e_hai_sai, up2_a _ _ _ (by omega), e1, e_hai_sai]
        by_cases h : i = k
        · subst h
          rw [up2_at, up2_at]
          simp [upd]
        · rw [up2_k _ _ _ h, up2_k _ _ _ h, up2_a _ _ _ (by omega)]
          simp only [upd, show ¬ 30 + 2 * i = 30 + 2 * k + 1 by omega, show ¬ 30 + 2 * i = 30 + 2 * k by omega, show ¬ 30 + 2 * i + 1 = 30 + 2 * k + 1 by omega, show ¬ 30 + 2 * i + 1 = 30 + 2 * k by omega, if_false]
          exact h4 i hi
theorem rX5_removeAt {G : mG} {w : mH} {a0 k : Nat} {A : Nat → Int32} (z0 : zTab w a0) (h : tRep w a0 A) (hk : k < nPt A) : mC G mX5_removeAt 2 0 0 [.ref a0, .int (nI k)] w (mP none (fun w' => mFr a0 (a0 + 3) w w' ∧ tRep w' a0 (fCut A k))) := by
  obtain ⟨n, h1, h2, h3, h4⟩ := h
  unfold fCut
  rw [nPt_of h2 (by omega)] at *
  have hv : ¬ vX5_has w a0 (nI k) = 0 := by
    unfold vX5_has
    rw [h3, if_neg (m_0le (by omega)), if_neg (by rw [m_le (by omega) (by omega)]; omega), if_neg (by rw [m_5 (by omega)]; omega)]
    decide
  refine mC_of (by decide +kernel) rfl (Nat.le_of_ble_eq_true rfl) rfl ?_
  refine gX5_removeAt_0 z0.1 (fun c1 => ?_) (fun c1 => absurd c1 hv)
  exact del_loop h1 z0 (n - 1 - k) k A w (by omega) mFr.rf h2 h3 h4
