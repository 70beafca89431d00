/-! frames of the reference; its append -/
def xF (F P : List Nat) (b : Nat) (w w' : mH) : Prop := mSh w w' ∧ (∀ a, a ≠ b → hfi w' a = hfi w a ∧ hfl w' a = hfl w a) ∧ (∀ k, k ∉ F → hfi w' b k = hfi w b k) ∧ ∀ a, (∀ j ∈ P, a ≠ b + j) → hai w' a = hai w a ∧ hal w' a = hal w a
theorem xF.rf {F P : List Nat} {b : Nat} {w : mH} : xF F P b w w := ⟨mSh.rf, fun _ _ => ⟨rfl, rfl⟩, fun _ _ => rfl, fun _ _ => ⟨rfl, rfl⟩⟩
theorem xF.tr {F P : List Nat} {b : Nat} {w w1 w2 : mH} (h : xF F P b w w1) (g : xF F P b w1 w2) : xF F P b w w2 := ⟨h.1.tr g.1, fun a ha => ⟨((g.2.1 a ha).1).trans (h.2.1 a ha).1, ((g.2.1 a ha).2).trans (h.2.1 a ha).2⟩, fun k hk => (g.2.2.1 k hk).trans (h.2.2.1 k hk), fun a ha => ⟨((g.2.2.2 a ha).1).trans (h.2.2.2 a ha).1, ((g.2.2.2 a ha).2).trans (h.2.2.2 a ha).2⟩⟩
theorem xF.wide {F P F' P' : List Nat} {b : Nat} {w w1 : mH} (h : xF F P b w w1) (h1 : ∀ k ∈ F, k ∈ F') (h2 : ∀ k ∈ P, k ∈ P') : xF F' P' b w w1 := ⟨h.1, h.2.1, fun k hk => h.2.2.1 k (fun q => hk (h1 k q)), fun a ha => h.2.2.2 a (fun j hj => ha j (h2 j hj))⟩
theorem xF_sfi {F P : List Nat} {b k : Nat} {v : Int32} {w w1 : mH} (h : xF F P b w w1) (hk : k ∈ F) : xF F P b w (sfi w1 b k v) := h.tr ⟨⟨rfl, rfl, rfl, rfl⟩, fun a ha => ⟨by rw [hfi_sfi, up2_a _ _ _ ha], rfl⟩, fun j hj => by rw [hfi_sfi, up2_k _ _ _ (fun q => hj (by rw [q]; exact hk))], fun _ _ => ⟨rfl, rfl⟩⟩
theorem xF_sfl {F P : List Nat} {b k : Nat} {v : Int64} {w w1 : mH} (h : xF F P b w w1) : xF F P b w (sfl w1 b k v) := h.tr ⟨⟨rfl, rfl, rfl, rfl⟩, fun a ha => ⟨rfl, by rw [hfl_sfl, up2_a _ _ _ ha]⟩, fun j hj => rfl, fun _ _ => ⟨rfl, rfl⟩⟩
theorem xF_sai {F P : List Nat} {b i k : Nat} {v : Int32} {w w1 : mH} (h : xF F P b w w1) (hk : i ∈ P) : xF F P b w (sai w1 (b + i) k v) := h.tr ⟨⟨rfl, rfl, rfl, rfl⟩, fun a ha => ⟨rfl, rfl⟩, fun j hj => rfl, fun a ha => ⟨by rw [hai_sai, up2_a _ _ _ (ha i hk)], rfl⟩⟩
theorem xF_sal {F P : List Nat} {b i k : Nat} {v : Int64} {w w1 : mH} (h : xF F P b w w1) (hk : i ∈ P) : xF F P b w (sal w1 (b + i) k v) := h.tr ⟨⟨rfl, rfl, rfl, rfl⟩, fun a ha => ⟨rfl, rfl⟩, fun j hj => rfl, fun a ha => ⟨rfl, by rw [hal_sal, up2_a _ _ _ (ha i hk)]⟩⟩
theorem xF.fi {F P : List Nat} {b k : Nat} {w w1 : mH} (h : xF F P b w w1) (hk : k ∉ F) : hfi w1 b k = hfi w b k := h.2.2.1 k hk
theorem xF.ai {F P : List Nat} {b i : Nat} {w w1 : mH} (h : xF F P b w w1) (hi : i ∉ P) : hai w1 (b + i) = hai w (b + i) := (h.2.2.2 (b + i) (fun j hj q => hi (by rw [show i = j by omega]; exact hj))).1
theorem xF.al {F P : List Nat} {b i : Nat} {w w1 : mH} (h : xF F P b w w1) (hi : i ∉ P) : hal w1 (b + i) = hal w (b + i) := (h.2.2.2 (b + i) (fun j hj q => hi (by rw [show i = j by omega]; exact hj))).2
/-- the reference touches its own cells alone -/
theorem xF.fr {F P : List Nat} {b : Nat} {w w1 : mH} (h : xF F P b w w1) (hP : ∀ j ∈ P, j < 22) : mFr b (b + 22) w w1 := ⟨h.1, fun a ha => ⟨(h.2.1 a (by omega)).1, (h.2.1 a (by omega)).2, (h.2.2.2 a (fun j hj => by have := hP j hj; omega)).1, (h.2.2.2 a (fun j hj => by have := hP j hj; omega)).2⟩⟩
theorem sfi_sfi (w : mH) (a k : Nat) (v v' : Int32) : sfi (sfi w a k v) a k v' = sfi w a k v' := by
  have e : up2 (up2 (hfi w) a k v) a k v' = up2 (hfi w) a k v' := by
    funext b j
    unfold up2
    by_cases h : b = a ∧ j = k
    · rw [if_pos h, if_pos h]
    · rw [if_neg h, if_neg h, if_neg h]
  show (_, _, up2 (up2 (hfi w) a k v) a k v', _, _, _, _, _) = _
  rw [e]
  rfl
def ltR (w : mH) (b : Nat) (lt : Nat → Nat) (n : Nat) : Prop := hfi w b 8 = nI n ∧ n ≤ 50 ∧ ∀ i, i < n → hai w (b + 5) i = nI (lt i) ∧ 33 ≤ lt i ∧ lt i ≤ 126
theorem append2 {G : mG} {w0 : mH} {a0 : Nat} {x s : Int32} {Φ : mF} (z0 : zRef w0 a0) : ∀ f lt n w, f ≤ 4 → xF [0, 8] [5] a0 w0 w → ltR w a0 lt n → n + cnt x f ≤ 50 → ¬ alw x f = 0 → hfi w a0 0 = 0 →
    (∀ w', xF [0, 8] [5] a0 w0 w' → hfi w' a0 0 = 0 → ltR w' a0 (tk x f lt n) (n + cnt x f) → Φ (.inl (some (.int (nI (n + cnt x f))))) w') → mW G mX11_append 2 0 0 116 [(0, .ref a0), (1, .int x), (2, .int s), (3, .int (sh f))] [] w Φ := by
  intro f
  induction f with
  | zero =>
    intro lt n w hf F hL hc ha h0 hΦ
    have hs : mS2 w0 w := mS2.of F.1
    have z := zRef_s2 hs z0
    refine gX11_append_116 (a0_7 := a0 + 5) z.1 z.2.2.2.2.2.1 z.2.2.2.2.2.2.2.2.2.2.2.2.2.2.2.2.2.2.2.2.2.2.2.2.2.2.1 (by intro c1; exact absurd (by decide) c1) ?_ ?_ ?_
    all_goals first | (intro c1; exact absurd (by decide) c1) | skip
    intro _
    rw [hL.1]
    exact hΦ w F h0 hL
  | succ f ih =>
    intro lt n w hf F hL hc ha h0 hΦ
    have hs : mS2 w0 w := mS2.of F.1
    have z := zRef_s2 hs z0
    have hcl : (hfi w a0 8).toNatClampNeg = n := by rw [hL.1]; have := hL.2.1; exact m_cl (by omega)
    refine gX11_append_116 (a0_7 := a0 + 5) z.1 z.2.2.2.2.2.1 z.2.2.2.2.2.2.2.2.2.2.2.2.2.2.2.2.2.2.2.2.2.2.2.2.2.2.1 (by intros; rw [hL.1]; exact m_vp (by have := hL.2.1; rename_i q1 q2; have hb := (show ¬ bt x f = 0 from q2); rw [cnt, if_neg hb] at hc; omega) (by omega)) ?_ ?_ ?_
    · intro c1
      exact absurd c1 (sh_p f (by omega))
    · intro c1 c2 w1 e1 w2 e2
      rw [sh_d f (by omega)]
      have c2' : ¬ bt x f = 0 := c2
      rw [cnt, if_neg c2'] at hc hΦ
      rw [tk, if_neg c2'] at hΦ
      rw [alw, if_neg c2'] at ha
      have hw : ¬ vX10_isWithin (bt x f) 33 126 = 0 := fun q => by rw [if_pos q] at ha; exact ha rfl
      rw [if_neg hw] at ha
      have hb := bt_w hw
      rw [hcl] at e1
      have e1' : w1 = sai w (a0 + 5) n (nI (bN x f)) := by
        rw [e1, ← (bt_v x f).1]
        rfl
      have F2 : xF [0, 8] [5] a0 w0 w2 := by rw [e2, e1']; exact xF_sfi (xF_sai F (by decide)) (by decide)
      rw [show n + (1 + cnt x f) = n + 1 + cnt x f by omega] at hΦ
      refine ih (fun i => if i = n then bN x f else lt i) (n + 1) w2 (by omega) F2 ⟨?_, by omega, fun i hi => ?_⟩ (by omega) ha ?_ hΦ
      · rw [e2, e_hfi_sfi, up2_at, e1', e_hfi_sai, hL.1, nI_1]
      · rw [e2, e_hai_sfi, e1', e_hai_sai]
        by_cases hin : i = n
        · subst hin
          rw [up2_at]
          show nI (bN x f) = nI (if i = i then bN x f else lt i) ∧ 33 ≤ (if i = i then bN x f else lt i) ∧ (if i = i then bN x f else lt i) ≤ 126
          rw [if_pos rfl]
          exact ⟨rfl, hb⟩
        · rw [up2_k _ _ _ hin]
          show hai w (a0 + 5) i = nI (if i = n then bN x f else lt i) ∧ 33 ≤ (if i = n then bN x f else lt i) ∧ (if i = n then bN x f else lt i) ≤ 126
          rw [if_neg hin]
          exact hL.2.2 i (by omega)
      · rw [e2, e_hfi_sfi, up2_k _ _ _ (by decide), e1', e_hfi_sai]; exact h0
    · intro c1 c2
      rw [sh_d f (by omega)]
      rw [cnt, if_pos (show bt x f = 0 from c2), Nat.zero_add] at hc hΦ
      rw [tk, if_pos (show bt x f = 0 from c2)] at hΦ
      rw [alw, if_pos (show bt x f = 0 from c2)] at ha
      exact ih lt n w (by omega) F hL hc ha h0 hΦ
theorem append1 {G : mG} {w0 : mH} {a0 n : Nat} {x : Int32} {Φ : mF} (z0 : zRef w0 a0) (hn : hfi w0 a0 8 = nI n) (h50 : n ≤ 50) : ∀ f s t, s + f ≤ 4 → t = 0 ∨ t = 1 →
    ((t = 1 ∨ alw x f = 0) → Φ (.inl (some (.int 0))) (sfi w0 a0 0 1)) → (t = 0 → ¬ alw x f = 0 → ¬ n + (s + cnt x f) ≤ 50 → Φ (.inl (some (.int 0))) (sfi w0 a0 0 2)) →
    (t = 0 → ¬ alw x f = 0 → n + (s + cnt x f) ≤ 50 → ∀ s, mW G mX11_append 2 0 0 116 [(0, .ref a0), (1, .int x), (2, .int s), (3, .int 24)] [] (sfi w0 a0 0 0) Φ) →
    mW G mX11_append 2 0 0 10 [(0, .ref a0), (1, .int x), (2, .int (nI s)), (3, .int (sh f))] [] (sfi w0 a0 0 t) Φ := by
  intro f
  induction f with
  | zero =>
    intro s t hs ht h1 h2 h3
    have e8 : hfi (sfi w0 a0 0 t) a0 8 + nI s ≤ 50 ↔ n + s ≤ 50 := by rw [e_hfi_sfi, up2_k _ _ _ (by decide), hn, nI_add]; exact m_le (b := 50) (by omega) (by omega)
    have e0 : hfi (sfi w0 a0 0 t) a0 0 = t := by rw [e_hfi_sfi, up2_at]
    have en : n + (s + cnt x 0) = n + s := rfl
    have ea : ¬ alw x 0 = 0 := by show ¬ (1 : Int32) = 0; decide
    rw [en] at h2 h3
    refine gX11_append_10 (show hk w0 a0 = (11, 0) from z0.1) ?_ ?_ ?_ ?_ ?_ ?_ ?_ ?_ ?_
    · intro _ c2 w1 e1 c3
      rw [e0] at e1 c2
      rw [e1, e_hfi_sfi, up2_at] at c3
      exact absurd c3 c2
    · intro _ c2 w1 e1 c3
      rw [e0] at e1 c2
      rw [sfi_sfi] at e1
      have ht1 : t = 1 := ht.elim (fun h => absurd h c2) id
      rw [e1, ht1]
      exact h1 (Or.inl ht1)
    · intro _ c2 c4 w2 e2 c5
      rw [e8] at c4
      rw [e0] at e2 c2
      rw [sfi_sfi, c2] at e2
      rw [e2]
      exact h3 c2 ea c4 _
    · intro _ c2 c4 w2 e2 c5
      rw [e0] at e2 c2
      rw [e2, e_hfi_sfi, up2_at] at c5
      exact absurd c2 c5
    · intro _ c2 c4 w3 e3 c6
      rw [e3, e_hfi_sfi, up2_at] at c6
      exact absurd c6 (by decide)
    · intro _ c2 c4 w3 e3 c6
      rw [e8] at c4
      rw [e0] at c2
      rw [sfi_sfi] at e3
      rw [e3]
      exact h2 c2 ea c4
    all_goals (intro c1; exact absurd (by decide) c1)
  | succ f ih =>
    intro s t hs ht h1 h2 h3
    have e0 : hfi (sfi w0 a0 0 t) a0 0 = t := by rw [e_hfi_sfi, up2_at]
    refine gX11_append_10 (show hk w0 a0 = (11, 0) from z0.1) ?_ ?_ ?_ ?_ ?_ ?_ ?_ ?_ ?_
    all_goals first | (intro c1; exact absurd c1 (sh_p f (by omega))) | skip
    · intro c1 c7 c8 w4 e4
      have c7' : ¬ bt x f = 0 := c7
      have c8' : ¬ vX10_isWithin (bt x f) 33 126 = 0 := by rw [← in_eq (A := 33) (B := 126) rfl rfl]; exact c8
      rw [alw, if_neg c7', if_neg c8', cnt, if_neg c7', ← Nat.add_assoc s 1] at h2 h3
      rw [alw, if_neg c7', if_neg c8'] at h1
      rw [e0, sfi_sfi] at e4
      rw [e4, sh_d f (by omega), nI_1]
      exact ih (s + 1) t (by omega) ht h1 h2 h3
    · intro c1 c7 c8 w5 e5
      have c7' : ¬ bt x f = 0 := c7
      have c8' : vX10_isWithin (bt x f) 33 126 = 0 := by rw [← in_eq (A := 33) (B := 126) rfl rfl]; exact c8
      rw [alw, if_neg c7', if_pos c8'] at h1
      rw [sfi_sfi] at e5
      rw [e5, sh_d f (by omega), nI_1]
      exact ih (s + 1) 1 (by omega) (Or.inr rfl) (fun _ => h1 (Or.inr rfl)) (fun q => absurd q (by decide)) (fun q => absurd q (by decide))
    · intro c1 c7 w6 e6
      have c7' : bt x f = 0 := c7
      rw [alw, if_pos c7', cnt, if_pos c7', Nat.zero_add] at h2 h3
      rw [alw, if_pos c7'] at h1
      rw [e0, sfi_sfi] at e6
      rw [e6, sh_d f (by omega), show nI s + 0 = nI s from Int32.add_zero _]
      exact ih s t (by omega) ht h1 h2 h3
/-- what append answers: the code, the number -/
def apT (x : Int32) (n : Nat) : Int32 := if alw x 4 = 0 then 1 else if n + cnt x 4 ≤ 50 then 0 else 2
theorem rX11_append {G : mG} {w : mH} {a0 n : Nat} {x1 : Int32} {lt : Nat → Nat} (z0 : zRef w a0) (hL : ltR w a0 lt n) : mC G mX11_append 2 0 0 [.ref a0, .int x1] w (fun o w' => xF [0, 8] [5] a0 w w' ∧ hfi w' a0 0 = apT x1 n ∧ (apT x1 n = 0 → o = .inl (some (.int (nI (n + cnt x1 4)))) ∧ ltR w' a0 (tk x1 4 lt n) (n + cnt x1 4)) ∧ (¬ apT x1 n = 0 → ltR w' a0 lt n ∧ o = .inl (some (.int 0)))) := by
  refine mC_of (by decide +kernel) rfl (Nat.le_of_ble_eq_true rfl) rfl ?_
  refine gX11_append_0 z0.1 ?_
  intro w1 e1
  rw [e1]
  have K : ∀ t, xF [0, 8] [5] a0 w (sfi w a0 0 t) := fun t => xF_sfi xF.rf (by decide)
  have KL : ∀ t, ltR (sfi w a0 0 t) a0 lt n := fun t => ⟨by rw [e_hfi_sfi, up2_k _ _ _ (by decide)]; exact hL.1, hL.2⟩
  refine append1 z0 hL.1 hL.2.1 4 0 0 (by omega) (Or.inl rfl) (fun h => ?_) (fun _ h1 h2 => ?_) (fun _ h1 h2 s => ?_)
  · have ha : alw x1 4 = 0 := h.elim (fun q => absurd q (by decide)) id
    have e : apT x1 n = 1 := by unfold apT; rw [if_pos ha]
    rw [e]
    exact ⟨K 1, by rw [e_hfi_sfi, up2_at], fun q => absurd q (by decide), fun _ => ⟨KL 1, rfl⟩⟩
  · rw [Nat.zero_add] at h2
    have e : apT x1 n = 2 := by unfold apT; rw [if_neg h1, if_neg h2]
    rw [e]
    exact ⟨K 2, by rw [e_hfi_sfi, up2_at], fun q => absurd q (by decide), fun _ => ⟨KL 2, rfl⟩⟩
  · rw [Nat.zero_add] at h2
    have e : apT x1 n = 0 := by unfold apT; rw [if_neg h1, if_pos h2]
    refine append2 (w0 := w) z0 4 lt n (sfi w a0 0 0) (by omega) (K 0) (KL 0) h2 h1 (by rw [e_hfi_sfi, up2_at]) (fun w' f g l => ?_)
    rw [e]
    exact ⟨f, g, fun _ => ⟨rfl, l⟩, fun q => absurd rfl q⟩

