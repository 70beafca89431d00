/-! what a change keeps of aOK -/
theorem cG_c {A B : Nat → Int32} (h : ∀ k, 20 ≤ k → k < 29 → B k = A k) {g : Nat} (hg : g < 3) : cG B g = cG A g := by unfold cG; rw [h _ (by omega) (by omega)]
theorem gOK_c {A B : Nat → Int32} (h : ∀ k, 20 ≤ k → k < 29 → B k = A k) (ok : gOK A) : gOK B := fun g hg => by
  rw [cG_c h hg, h _ (by omega) (by omega)]
  exact ok g hg
theorem gdB_c {A B : Nat → Int32} (h : ∀ k, 20 ≤ k → k < 29 → B k = A k) (ok : gdB A) : gdB B := fun g hg => by
  rw [cG_c h hg, h (20 + 3 * g) (by omega) (by omega), h (20 + 3 * g + 1) (by omega) (by omega)]
  exact ok g hg
theorem pt_c {A B : Nat → Int32} (h : ∀ k, 29 ≤ k → k < 40 → B k = A k) (hp : ptOK A) (hs : srt A) (hb : ptB A) : ptOK B ∧ srt B ∧ ptB B := by
  have e : nPt B = nPt A := by unfold nPt; rw [h 29 (by decide) (by decide)]
  have h5 := hp.2
  have eX : ∀ i, i < 5 → rX B i = rX A i := fun i hi => h _ (by omega) (by omega)
  have eY : ∀ i, i < 5 → rY B i = rY A i := fun i hi => h _ (by omega) (by omega)
  refine ⟨⟨by rw [e, h 29 (by decide) (by decide)]; exact hp.1, by rw [e]; exact h5⟩, fun i hi => ?_, fun i hi => ?_⟩
  · rw [e] at hi
    rw [eX i (by omega), eX (i + 1) (by omega)]
    exact hs i hi
  · rw [e] at hi
    rw [eX i (by omega), eY i (by omega)]
    exact hb i hi
theorem tk_c {A B : Nat → Int32} (h : ∀ k, 40 ≤ k → k < 78 → B k = A k) (hc : cntOK A) (hs : sgB A) (hp : psB A) : cntOK B ∧ sgB B ∧ psB B := by
  have e1 : nSg B = nSg A := by unfold nSg; rw [h 40 (by decide) (by decide)]
  have e2 : nPs B = nPs A := by unfold nPs; rw [h 65 (by decide) (by decide)]
  obtain ⟨c1, c2, c3, c4⟩ := hc
  refine ⟨⟨by rw [e1, h 40 (by decide) (by decide)]; exact c1, by rw [e1]; exact c2, by rw [e2, h 65 (by decide) (by decide)]; exact c3, by rw [e2]; exact c4⟩, fun i hi => ?_, fun i hi => ?_⟩
  · rw [e1] at hi
    rw [show rK B i = rK A i from h _ (by omega) (by omega), show rL B i = rL A i from h _ (by omega) (by omega), show rC B i = rC A i from h _ (by omega) (by omega)]
    exact hs i hi
  · rw [e2] at hi
    rw [show rF B i = rF A i from h _ (by omega) (by omega), show rV B i = rV A i from h _ (by omega) (by omega), show rW B i = rW A i from h _ (by omega) (by omega)]
    exact hp i hi
theorem aOK_c {A B : Nat → Int32} (h : ∀ k, k < 78 → B k = A k) (ok : aOK A) : aOK B := by
  obtain ⟨h1, h2, h3, h4, h5, h6, h7, h8, h9, h10⟩ := ok
  obtain ⟨p1, p2, p3⟩ := pt_c (fun k _ hk => h k (by omega)) h5 h6 h7
  obtain ⟨t1, t2, t3⟩ := tk_c (fun k _ hk => h k (by omega)) h8 h9 h10
  exact ⟨fun k hk => by rw [h k (by omega)]; exact h1 k hk, fun k hk => by rw [h _ (by omega)]; exact h2 k hk, gOK_c (fun k _ hk => h k (by omega)) h3, gdB_c (fun k _ hk => h k (by omega)) h4, p1, p2, p3, t1, t2, t3⟩
theorem aOK_set {A : Nat → Int32} {s : Nat} {v : Int32} (hs : s < 15) (hv : iw ((mSv 1).getD s 0) ((mSv 2).getD s 0) v) (ok : aOK A) : aOK (upd A s v) := by
  obtain ⟨h1, h2, h3, h4, h5, h6, h7, h8, h9, h10⟩ := ok
  obtain ⟨p1, p2, p3⟩ := pt_c (B := upd A s v) (fun k hk _ => upd_ne (by omega)) h5 h6 h7
  obtain ⟨t1, t2, t3⟩ := tk_c (B := upd A s v) (fun k hk _ => upd_ne (by omega)) h8 h9 h10
  refine ⟨fun k hk => ?_, fun k hk => by rw [upd_ne (by omega)]; exact h2 k hk, gOK_c (fun k hk _ => upd_ne (by omega)) h3, gdB_c (fun k hk _ => upd_ne (by omega)) h4, p1, p2, p3, t1, t2, t3⟩
  by_cases q : k = s
  · subst q
    rw [show upd A k v k = v from if_pos rfl]
    exact hv
  · rw [upd_ne q]
    exact h1 k hk
theorem aOK_wei {A : Nat → Int32} {s : Nat} {v : Int32} (hs : s < 5) (hv : iw 0 99 v) (ok : aOK A) : aOK (upd A (15 + s) v) := by
  obtain ⟨h1, h2, h3, h4, h5, h6, h7, h8, h9, h10⟩ := ok
  obtain ⟨p1, p2, p3⟩ := pt_c (B := upd A (15 + s) v) (fun k hk _ => upd_ne (by omega)) h5 h6 h7
  obtain ⟨t1, t2, t3⟩ := tk_c (B := upd A (15 + s) v) (fun k hk _ => upd_ne (by omega)) h8 h9 h10
  refine ⟨fun k hk => by rw [upd_ne (by omega)]; exact h1 k hk, fun k hk => ?_, gOK_c (fun k hk _ => upd_ne (by omega)) h3, gdB_c (fun k hk _ => upd_ne (by omega)) h4, p1, p2, p3, t1, t2, t3⟩
  by_cases q : k = s
  · subst q
    rw [show upd A (15 + k) v (15 + k) = v from if_pos rfl]
    exact hv
  · rw [upd_ne (by omega)]
    exact h2 k hk
theorem aOK_gain {A : Nat → Int32} {p i d : Int32} (hp : 0 ≤ p.toInt ∧ p.toInt ≤ 999) (hi : 0 ≤ i.toInt ∧ i.toInt ≤ 999) (hd : 0 ≤ d.toInt ∧ d.toInt ≤ 999) (ok : aOK A) : aOK (aGain A p i d) := by
  obtain ⟨h1, h2, h3, h4, h5, h6, h7, h8, h9, h10⟩ := ok
  have e : ∀ k, 4 ≤ k → aGain A p i d k = A k := agr_gain
  obtain ⟨p1, p2, p3⟩ := pt_c (B := aGain A p i d) (fun k hk _ => e k (by omega)) h5 h6 h7
  obtain ⟨t1, t2, t3⟩ := tk_c (B := aGain A p i d) (fun k hk _ => e k (by omega)) h8 h9 h10
  exact ⟨seB_gain h1 hp hi hd, fun k hk => by rw [e _ (by omega)]; exact h2 k hk, gOK_c (fun k hk _ => e k (by omega)) h3, gdB_c (fun k hk _ => e k (by omega)) h4, p1, p2, p3, t1, t2, t3⟩
theorem aOK_grd {A : Nat → Int32} {g : Nat} {f s c : Int32} {n : Nat} (hg : g < 3) (hf : iw 0 999 f) (hs : iw 1 200 s) (hc : c = nI n) (h1n : 1 ≤ n) (hn : n ≤ 6) (hm : f.toInt + s.toInt * ((n : Int) - 1) ≤ 999) (ok : aOK A) : aOK (upG A g f s c) := by
  obtain ⟨h1, h2, h3, h4, h5, h6, h7, h8, h9, h10⟩ := ok
  have e : ∀ k, k < 20 + 3 * g ∨ 20 + 3 * g + 3 ≤ k → upG A g f s c k = A k := fun k hk => by
    unfold upG
    rw [upd_ne (by omega), upd_ne (by omega), upd_ne (by omega)]
  have e0 : upG A g f s c (20 + 3 * g) = f := by unfold upG; rw [upd_ne (by omega), upd_ne (by omega)]; exact if_pos rfl
  have e1 : upG A g f s c (20 + 3 * g + 1) = s := by unfold upG; rw [upd_ne (by omega)]; exact if_pos rfl
  have e2 : upG A g f s c (20 + 3 * g + 2) = c := if_pos rfl
  obtain ⟨p1, p2, p3⟩ := pt_c (B := upG A g f s c) (fun k hk _ => e k (by omega)) h5 h6 h7
  obtain ⟨t1, t2, t3⟩ := tk_c (B := upG A g f s c) (fun k hk _ => e k (by omega)) h8 h9 h10
  have hcg : cG (upG A g f s c) g = n := by unfold cG; rw [e2, hc]; exact m_cl (by omega)
  refine ⟨fun k hk => by rw [e k (by omega)]; exact h1 k hk, fun k hk => by rw [e _ (by omega)]; exact h2 k hk, fun x hx => ?_, fun x hx => ?_, p1, p2, p3, t1, t2, t3⟩
  · by_cases q : x = g
    · subst q
      rw [hcg, e2, hc]
      exact ⟨rfl, h1n, hn⟩
    · have ec : cG (upG A g f s c) x = cG A x := by unfold cG; rw [e _ (by omega)]
      rw [ec, e _ (by omega)]
      exact h3 x hx
  · by_cases q : x = g
    · subst q
      rw [hcg, e0, e1]
      exact ⟨hf, hs, hm⟩
    · have ec : cG (upG A g f s c) x = cG A x := by unfold cG; rw [e _ (by omega)]
      rw [ec, e (20 + 3 * x) (by omega), e (20 + 3 * x + 1) (by omega)]
      exact h4 x hx
