/-! the reference's reading: part, put together -/
def pT (w0 w : mH) (a : Nat) (lt : Nat → Nat) (n p : Nat) (fl : Int32) (B : Nat → Int32) (m : Int32) (K : Nat) : Prop := pS w0 w a lt n p fl B m ∧ p ≤ K
theorem pT_num {w0 w w1 : mH} {a n p K : Nat} {lt : Nat → Nat} {fl m lo hi : Int32} {B : Nat → Int32} (h : pT w0 w a lt n p fl B m K) (u : uEnd w w1 a (uNum lo hi lt n (rP w a) (hfi w a 10))) (hK : K + 3 ≤ 1000) : ∃ r, r = uNum lo hi lt n p fl ∧ pT w0 w1 a lt n r.2.1 r.2.2 B m (K + 3) := by
  have e1 := h.1.2.2.1
  have e2 := h.1.2.2.2.1
  rw [e1, e2] at u
  have hb := uNum_le lo hi lt n p fl
  have := h.2
  exact ⟨_, rfl, pS_u h.1 u (K := K + 3) (by omega) hK, by omega⟩
theorem pT_wan {w0 w w1 : mH} {a n p K : Nat} {lt : Nat → Nat} {fl m c : Int32} {B : Nat → Int32} (h : pT w0 w a lt n p fl B m K) (u : uEnd w w1 a (uWan c lt n (rP w a) (hfi w a 10))) (hK : K + 1 ≤ 1000) : ∃ r, r = (uWan c lt n p fl).2 ∧ pT w0 w1 a lt n r.1 r.2 B m (K + 1) := by
  have e1 := h.1.2.2.1
  have e2 := h.1.2.2.2.1
  rw [e1, e2] at u
  have hb : (uWan c lt n p fl).2.1 = p + 1 := rfl
  have := h.2
  exact ⟨_, rfl, pS_u h.1 u (K := K + 1) (by omega) hK, by omega⟩
theorem pT_sg {w0 w w1 : mH} {a n p K : Nat} {lt : Nat → Nat} {fl m x : Int32} {B : Nat → Int32} (h : pT w0 w a lt n p fl B m K) (u : uEnd w w1 a (uSg x lt n (rP w a) (hfi w a 10))) (hK : K + 4 ≤ 1000) : ∃ r, r = uSg x lt n p fl ∧ pT w0 w1 a lt n r.2.1 r.2.2 B m (K + 4) := by
  have e1 := h.1.2.2.1
  have e2 := h.1.2.2.2.1
  rw [e1, e2] at u
  have hb := uSg_le x lt n p fl
  have := h.2
  exact ⟨_, rfl, pS_u h.1 u (K := K + 4) (by omega) hK, by omega⟩
theorem pT_s {w0 w w1 : mH} {a n p k K : Nat} {lt : Nat → Nat} {fl m v : Int32} {B : Nat → Int32} (h : pT w0 w a lt n p fl B m K) (e : w1 = sai w (a + 6) k v) : pT w0 w1 a lt n p fl (upd B k v) m K := ⟨pS_s h.1 e, h.2⟩
theorem upd_pus {B : Nat → Int32} {m : Nat} {f v l : Int32} (h : nPs B = m) (h65 : B 65 = nI m) : upd (upd (upd (upd B (66 + 3 * m) f) (66 + 3 * m + 1) v) (66 + 3 * m + 2) l) 65 (nI m + 1) = addPus B f v l := by
  funext j
  unfold addPus upd
  rw [h, nI_1]
  by_cases h1 : j = 65
  · rw [if_pos h1, if_neg (by omega), if_neg (by omega), if_neg (by omega), if_pos h1]
  · rw [if_neg h1, if_neg h1]
    by_cases h2 : j = 66 + 3 * m
    · rw [if_neg (by omega), if_neg (by omega), if_pos h2, if_pos h2]
    · rw [if_neg h2, if_neg h2]
      by_cases h3 : j = 66 + 3 * m + 1
      · rw [if_neg (by omega), if_pos h3, if_pos h3]
      · rw [if_neg h3, if_neg h3]
theorem upd_sg0 {B : Nat → Int32} {m : Nat} {k l : Int32} (h : nSg B = m) : upd (upd (upd (upd B (41 + 3 * m) k) (41 + 3 * m + 1) l) (41 + 3 * m + 2) 0) 40 (nI m + 1) = addSeg B k l 0 := by
  funext j
  unfold addSeg upd
  rw [h, nI_1]
  by_cases h1 : j = 40
  · rw [if_pos h1, if_neg (by omega), if_neg (by omega), if_neg (by omega), if_pos h1]
  · rw [if_neg h1, if_neg h1]
    by_cases h2 : j = 41 + 3 * m
    · rw [if_neg (by omega), if_neg (by omega), if_pos h2, if_pos h2]
    · rw [if_neg h2, if_neg h2]
      by_cases h3 : j = 41 + 3 * m + 1
      · rw [if_neg (by omega), if_pos h3, if_pos h3]
      · rw [if_neg h3, if_neg h3]
theorem upd_sg {B : Nat → Int32} {m : Nat} {k l c : Int32} (h : nSg B = m) : upd (upd (upd (upd (upd B (41 + 3 * m) k) (41 + 3 * m + 1) l) (41 + 3 * m + 2) 0) (41 + 3 * m + 2) c) 40 (nI m + 1) = addSeg B k l c := by
  funext j
  unfold addSeg upd
  rw [h, nI_1]
  by_cases h1 : j = 40
  · rw [if_pos h1, if_neg (by omega), if_neg (by omega), if_neg (by omega), if_pos h1]
  · rw [if_neg h1, if_neg h1]
    by_cases h2 : j = 41 + 3 * m
    · rw [if_neg (by omega), if_neg (by omega), if_neg (by omega), if_pos h2, if_pos h2]
    · rw [if_neg h2, if_neg h2]
      by_cases h3 : j = 41 + 3 * m + 1
      · rw [if_neg (by omega), if_neg (by omega), if_pos h3, if_pos h3]
      · rw [if_neg h3, if_neg h3]
        by_cases h4 : j = 41 + 3 * m + 2
        · rw [if_pos h4, if_pos h4]
        · rw [if_neg h4, if_neg h4, if_neg h4]
theorem upd_ne {f : Nat → Int32} {k j : Nat} {v : Int32} (h : j ≠ k) : upd f k v j = f j := if_neg h
theorem cg2 {α β γ : Type} (f : α → β → γ) {a a1 : α} {b b1 : β} (h : a = a1) (g : b = b1) : f a b = f a1 b1 := by rw [h, g]
/-- what a part leaves -/
def ptO (w w' : mH) (a : Nat) (r : (Nat × (Nat → Int32)) ⊕ Nat) (K : Nat) : Prop := xF [9, 10, 12] [6] a w w' ∧ (∃ p', hfi w' a 9 = nI p' ∧ p' ≤ K) ∧ (∀ x, r = .inl x → hfi w' a 9 = nI x.1 ∧ hfi w' a 10 = -1 ∧ hai w' (a + 6) = x.2 ∧ hfi w' a 12 = hfi w a 12 + 1) ∧ ∀ q, r = .inr q → hfi w' a 10 = nI q
theorem part_end {G : mG} {w0 w : mH} {a0 n p K : Nat} {lt : Nat → Nat} {fl m x1 x2 x3 : Int32} {B : Nat → Int32} {r : (Nat × (Nat → Int32)) ⊕ Nat} (z0 : zRef w0 a0) (h : pT w0 w a0 lt n p fl B m K) (hK : K ≤ 900) (hm : m = hfi w0 a0 12) (h1 : ∀ x, r = .inl x → (p, fl) = (x.1, -1) ∧ B = x.2) (h2 : ∀ q, r = .inr q → fl = nI q) : mW G mX11_part 5 0 0 281 [(0, .ref a0), (1, .int x1), (2, .int x2), (3, .int x3)] [] w (mP none (fun w' => ptO w0 w' a0 r 900)) := by
  have hs := mS2.of h.1.1.1
  obtain ⟨⟨F, g1, g2, g3, g4, g5⟩, hpK⟩ := h
  refine gX11_part_281 (lt := lt) (n := n) (zRef_s2 hs z0).1 ?_
  intro w1 e1
  have e9 : hfi w1 a0 9 = nI p := by rw [e1, e_hfi_sfi, up2_k _ _ _ (by decide), ← g2]; exact g1.2.2.2.1
  have e10 : hfi w1 a0 10 = fl := by rw [e1, e_hfi_sfi, up2_k _ _ _ (by decide)]; exact g3
  refine mP_of ⟨by rw [e1]; exact xF_sfi F (by decide), ⟨p, e9, by omega⟩, fun x hx => ?_, fun q hq => by rw [e10]; exact h2 q hq⟩
  obtain ⟨k1, k2⟩ := h1 x hx
  cases k1
  exact ⟨e9, e10, by rw [e1, e_hai_sfi, g4]; exact k2, by rw [e1, e_hfi_sfi, up2_at, g5, hm]⟩

theorem part_dis {G : mG} {w0 w : mH} {a0 n p m2 : Nat} {lt : Nat → Nat} {m x1 x2 x3 : Int32} {B : Nat → Int32} (z0 : zRef w0 a0) (h : pT w0 w a0 lt n p (-1) B m 60) (hpn : p ≤ n) (hm : m = hfi w0 a0 12) (hx : x3 = nI (66 + 3 * m2)) (hm2 : nPs B = m2) (h65 : B 65 = nI m2) (hlt : m2 < 4) : mW G mX11_part 5 0 0 145 [(0, .ref a0), (1, .int x1), (2, .int x2), (3, .int x3)] [] w (mP none (fun w' => ptO w0 w' a0 (pDis lt n p B) 900)) := by
  have hs := mS2.of h.1.1.1
  have hn50 := h.1.2.1.2.1
  have hl : ∀ i, i < n → 33 ≤ lt i ∧ lt i ≤ 126 := fun i hi => (h.1.2.1.2.2.1 i hi).2
  have cb0 : x3.toNatClampNeg = 66 + 3 * m2 := by rw [hx]; exact m_cl (by omega)
  have cb1 : (x3 + 1).toNatClampNeg = 66 + 3 * m2 + 1 := by rw [hx, nI_1]; exact m_cl (by omega)
  have cb2 : (x3 + 2).toNatClampNeg = 66 + 3 * m2 + 2 := by rw [hx, show (2 : Int32) = nI 2 from rfl, nI_add]; exact m_cl (by omega)
  have v0 : vp_in x3 78 := by rw [hx]; exact m_vp (by omega) (by omega)
  have v1 : vp_in (x3 + 1) 78 := by rw [hx, nI_1]; exact m_vp (by omega) (by omega)
  have v2 : vp_in (x3 + 2) 78 := by rw [hx, show (2 : Int32) = nI 2 from rfl, nI_add]; exact m_vp (by omega) (by omega)
  refine gX11_part_145 (lt := lt) (n := n) (a0_11 := a0 + 6) ((zRef_s2 hs z0).1) ((zRef_s2 hs z0).2.2.2.2.2.2.1) ((zRef_s2 hs z0)) (by exact h.1.2.1) (by rw [h.1.2.2.1]; exact Nat.le_trans h.2 (by decide)) ((zRef_s2 hs z0).2.2.2.2.2.2.2.2.2.2.2.2.2.2.2.2.2.2.2.2.2.2.2.2.2.2.2.1) (by intro w1 q1; obtain ⟨r1, hr1, k1⟩ := pT_num h q1 (by decide); exact v0) (by intro w1 q1 w2 e1; obtain ⟨r1, hr1, k1⟩ := pT_num h q1 (by decide); rw [cb0] at e1; have k2 := pT_s k1 e1; exact k2.1.2.1) (by intro w1 q1 w2 e1; obtain ⟨r1, hr1, k1⟩ := pT_num h q1 (by decide); rw [cb0] at e1; have k2 := pT_s k1 e1; rw [k2.1.2.2.1]; exact Nat.le_trans k2.2 (by decide)) (by intro w1 q1 w2 e1 w3 q2; obtain ⟨r1, hr1, k1⟩ := pT_num h q1 (by decide); rw [cb0] at e1; have k2 := pT_s k1 e1; obtain ⟨s2, hs2, k3⟩ := pT_wan k2 q2 (by decide); exact k3.1.2.1) (by intro w1 q1 w2 e1 w3 q2; obtain ⟨r1, hr1, k1⟩ := pT_num h q1 (by decide); rw [cb0] at e1; have k2 := pT_s k1 e1; obtain ⟨s2, hs2, k3⟩ := pT_wan k2 q2 (by decide); rw [k3.1.2.2.1]; exact Nat.le_trans k3.2 (by decide)) (by intro w1 q1 w2 e1 w3 q2 w4 q3; obtain ⟨r1, hr1, k1⟩ := pT_num h q1 (by decide); rw [cb0] at e1; have k2 := pT_s k1 e1; obtain ⟨s2, hs2, k3⟩ := pT_wan k2 q2 (by decide); obtain ⟨r3, hr3, k4⟩ := pT_sg k3 q3 (by decide); exact v1) (by intro w1 q1 w2 e1 w3 q2 w4 q3 w5 e2; obtain ⟨r1, hr1, k1⟩ := pT_num h q1 (by decide); rw [cb0] at e1; have k2 := pT_s k1 e1; obtain ⟨s2, hs2, k3⟩ := pT_wan k2 q2 (by decide); obtain ⟨r3, hr3, k4⟩ := pT_sg k3 q3 (by decide); rw [cb1] at e2; have k5 := pT_s k4 e2; exact k5.1.2.1) (by intro w1 q1 w2 e1 w3 q2 w4 q3 w5 e2; obtain ⟨r1, hr1, k1⟩ := pT_num h q1 (by decide); rw [cb0] at e1; have k2 := pT_s k1 e1; obtain ⟨s2, hs2, k3⟩ := pT_wan k2 q2 (by decide); obtain ⟨r3, hr3, k4⟩ := pT_sg k3 q3 (by decide); rw [cb1] at e2; have k5 := pT_s k4 e2; rw [k5.1.2.2.1]; exact Nat.le_trans k5.2 (by decide)) (by intro w1 q1 w2 e1 w3 q2 w4 q3 w5 e2 w6 q4; obtain ⟨r1, hr1, k1⟩ := pT_num h q1 (by decide); rw [cb0] at e1; have k2 := pT_s k1 e1; obtain ⟨s2, hs2, k3⟩ := pT_wan k2 q2 (by decide); obtain ⟨r3, hr3, k4⟩ := pT_sg k3 q3 (by decide); rw [cb1] at e2; have k5 := pT_s k4 e2; obtain ⟨s4, hs4, k6⟩ := pT_wan k5 q4 (by decide); exact k6.1.2.1) (by intro w1 q1 w2 e1 w3 q2 w4 q3 w5 e2 w6 q4; obtain ⟨r1, hr1, k1⟩ := pT_num h q1 (by decide); rw [cb0] at e1; have k2 := pT_s k1 e1; obtain ⟨s2, hs2, k3⟩ := pT_wan k2 q2 (by decide); obtain ⟨r3, hr3, k4⟩ := pT_sg k3 q3 (by decide); rw [cb1] at e2; have k5 := pT_s k4 e2; obtain ⟨s4, hs4, k6⟩ := pT_wan k5 q4 (by decide); rw [k6.1.2.2.1]; exact Nat.le_trans k6.2 (by decide)) (by intro w1 q1 w2 e1 w3 q2 w4 q3 w5 e2 w6 q4 w7 q5; obtain ⟨r1, hr1, k1⟩ := pT_num h q1 (by decide); rw [cb0] at e1; have k2 := pT_s k1 e1; obtain ⟨s2, hs2, k3⟩ := pT_wan k2 q2 (by decide); obtain ⟨r3, hr3, k4⟩ := pT_sg k3 q3 (by decide); rw [cb1] at e2; have k5 := pT_s k4 e2; obtain ⟨s4, hs4, k6⟩ := pT_wan k5 q4 (by decide); obtain ⟨r5, hr5, k7⟩ := pT_num k6 q5 (by decide); exact v2) (by intros; unfold vp_in; decide) ?_
  · intro w1 q1 w2 e1 w3 q2 w4 q3 w5 e2 w6 q4 w7 q5 w8 e3 w9 e4
    obtain ⟨r1, hr1, k1⟩ := pT_num h q1 (by decide)
    rw [cb0] at e1
    have k2 := pT_s k1 e1
    obtain ⟨s2, hs2, k3⟩ := pT_wan k2 q2 (by decide)
    obtain ⟨r3, hr3, k4⟩ := pT_sg k3 q3 (by decide)
    rw [cb1] at e2
    have k5 := pT_s k4 e2
    obtain ⟨s4, hs4, k6⟩ := pT_wan k5 q4 (by decide)
    obtain ⟨r5, hr5, k7⟩ := pT_num k6 q5 (by decide)
    rw [cb2] at e3
    have k8 := pT_s k7 e3
    have k9 := pT_s k8 e4
    have e65 : hai w8 (a0 + 6) 65 = nI m2 := by
      rw [k8.1.2.2.2.2.1, upd_ne (by omega), upd_ne (by omega), upd_ne (by omega)]; exact h65
    rw [e65] at k9
    have D := dis_u (B := B) hl hn50 hpn hr1 hs2 hr3 hs4 hr5
    have x1e : (uNum 0 199 lt n (rP w a0) (hfi w a0 10)).1 = r1.1 := by rw [h.1.2.2.1, h.1.2.2.2.1, hr1]
    have x2e : (uSg 500 lt n (rP w3 a0) (hfi w3 a0 10)).1 = r3.1 := by rw [k3.1.2.2.1, k3.1.2.2.2.1, hr3]
    have x3e : (uNum 1 99 lt n (rP w6 a0) (hfi w6 a0 10)).1 = r5.1 := by rw [k6.1.2.2.1, k6.1.2.2.2.1, hr5]
    rw [x1e, x2e, x3e, upd_pus hm2 h65] at k9
    refine part_end z0 k9 (by decide) hm (fun x hx => ?_) (fun q hq => D.2 q hq)
    obtain ⟨d1, d2⟩ := D.1 x hx
    exact ⟨by rw [← d1], d2.symm⟩

theorem part_seg {G : mG} {w0 w : mH} {a0 n p m1 k : Nat} {lt : Nat → Nat} {m x1 x2 x3 : Int32} {B : Nat → Int32} (z0 : zRef w0 a0) (h : pT w0 w a0 lt n p (-1) B m 60) (hpn : p ≤ n) (hm : m = hfi w0 a0 12) (hx : x3 = nI (41 + 3 * m1)) (hm1 : nSg B = m1) (h40 : B 40 = nI m1) (hlt : m1 < 8) (hx2 : x2 = nI k) (hk : k < 3) : mW G mX11_part 5 0 0 215 [(0, .ref a0), (1, .int x1), (2, .int x2), (3, .int x3)] [] w (mP none (fun w' => ptO w0 w' a0 (pSeg x2 lt n p B) 900)) := by
  have hs := mS2.of h.1.1.1
  have hn50 := h.1.2.1.2.1
  have hl : ∀ i, i < n → 33 ≤ lt i ∧ lt i ≤ 126 := fun i hi => (h.1.2.1.2.2.1 i hi).2
  have cb0 : x3.toNatClampNeg = 41 + 3 * m1 := by rw [hx]; exact m_cl (by omega)
  have cb1 : (x3 + 1).toNatClampNeg = 41 + 3 * m1 + 1 := by rw [hx, nI_1]; exact m_cl (by omega)
  have cb2 : (x3 + 2).toNatClampNeg = 41 + 3 * m1 + 2 := by rw [hx, show (2 : Int32) = nI 2 from rfl, nI_add]; exact m_cl (by omega)
  have v0 : vp_in x3 78 := by rw [hx]; exact m_vp (by omega) (by omega)
  have v1 : vp_in (x3 + 1) 78 := by rw [hx, nI_1]; exact m_vp (by omega) (by omega)
  have v2 : vp_in (x3 + 2) 78 := by rw [hx, show (2 : Int32) = nI 2 from rfl, nI_add]; exact m_vp (by omega) (by omega)
  refine gX11_part_215 (lt := lt) (n := n) (a0_11 := a0 + 6) ((zRef_s2 hs z0).1) ((zRef_s2 hs z0).2.2.2.2.2.2.1) ((zRef_s2 hs z0).2.2.2.2.2.2.2.2.2.2.2.2.2.2.2.2.2.2.2.2.2.2.2.2.2.2.2.1) (by exact v0) ((zRef_s2 hs z0)) (by intro w1 e1; rw [cb0] at e1; have k1 := pT_s h e1; exact k1.1.2.1) (by intro w1 e1; rw [cb0] at e1; have k1 := pT_s h e1; rw [k1.1.2.2.1]; exact Nat.le_trans k1.2 (by decide)) (by intro w1 e1 w2 q1; rw [cb0] at e1; have k1 := pT_s h e1; obtain ⟨r1, hr1, k2⟩ := pT_num k1 q1 (by decide); exact v1) (by intro w1 e1 w2 q1 w3 e2; rw [cb0] at e1; have k1 := pT_s h e1; obtain ⟨r1, hr1, k2⟩ := pT_num k1 q1 (by decide); rw [cb1] at e2; have k3 := pT_s k2 e2; exact v2) ?_ ?_
  · intro w1 e1 w2 q1 w3 e2 w4 e3 c1
    rw [cb0] at e1
    have k1 := pT_s h e1
    obtain ⟨r1, hr1, k2⟩ := pT_num k1 q1 (by decide)
    rw [cb1] at e2
    have k3 := pT_s k2 e2
    rw [cb2] at e3
    have k4 := pT_s k3 e3
    have hs4 := mS2.of k4.1.1.1
    have x20 : x2 = 0 := by
      rw [hx2, m_le0 (by omega)] at c1; rw [hx2, c1]; rfl
    have e40 : hai w4 (a0 + 6) 40 = nI m1 := by
      rw [k4.1.2.2.2.2.1, upd_ne (by omega), upd_ne (by omega), upd_ne (by omega)]; exact h40
    refine gX11_part_270 (lt := lt) (n := n) (zRef_s2 hs4 z0).1 ((zRef_s2 hs4 z0).2.2.2.2.2.2.1) ((zRef_s2 hs4 z0).2.2.2.2.2.2.2.2.2.2.2.2.2.2.2.2.2.2.2.2.2.2.2.2.2.2.2.1) (by unfold vp_in; decide) ?_
    intro w5 e5
    have k5 := pT_s k4 e5
    have x1e : (uNum 1 99 lt n (rP w1 a0) (hfi w1 a0 10)).1 = r1.1 := by rw [k1.1.2.2.1, k1.1.2.2.2.1, hr1]
    rw [e40, x1e, upd_sg0 hm1] at k5
    have D := seg0_u (B := B) (lt := lt) (n := n) (p := p) hr1
    rw [x20] at k5 ⊢
    exact part_end z0 k5 (by decide) hm (fun x hx => ⟨by rw [← (D.1 x hx).1], (D.1 x hx).2.symm⟩) (fun q hq => D.2 q hq)
  · intro w1 e1 w2 q1 w3 e2 w4 e3 c1
    rw [cb0] at e1
    have k1 := pT_s h e1
    obtain ⟨r1, hr1, k2⟩ := pT_num k1 q1 (by decide)
    rw [cb1] at e2
    have k3 := pT_s k2 e2
    rw [cb2] at e3
    have k4 := pT_s k3 e3
    have hs4 := mS2.of k4.1.1.1
    have x20 : ¬ x2 = 0 := fun q => c1 (by rw [q]; decide)
    have hs := hs4
    have g := h
    refine gX11_part_250 (lt := lt) (n := n) (a0_11 := a0 + 6) ((zRef_s2 hs4 z0).1) ((zRef_s2 hs4 z0)) (by exact k4.1.2.1) (by rw [k4.1.2.2.1]; exact Nat.le_trans k4.2 (by decide)) ((zRef_s2 hs4 z0).2.2.2.2.2.2.1) (by intro w1 q1; obtain ⟨s2, hs2, k5⟩ := pT_wan k4 q1 (by decide); exact k5.1.2.1) (by intro w1 q1; obtain ⟨s2, hs2, k5⟩ := pT_wan k4 q1 (by decide); rw [k5.1.2.2.1]; exact Nat.le_trans k5.2 (by decide)) ((zRef_s2 hs4 z0).2.2.2.2.2.2.2.2.2.2.2.2.2.2.2.2.2.2.2.2.2.2.2.2.2.2.2.1) (by intro w1 q1 w2 q2; obtain ⟨s2, hs2, k5⟩ := pT_wan k4 q1 (by decide); exact v2) ?_
    intro w5 q5 w6 q6 w7 e7
    obtain ⟨s2, hs2, k5⟩ := pT_wan k4 q5 (by decide)
    obtain ⟨r3, hr3, k6⟩ := pT_sg k5 q6 (by decide)
    rw [cb2] at e7
    have k7 := pT_s k6 e7
    have e40 : hai w7 (a0 + 6) 40 = nI m1 := by
      rw [k7.1.2.2.2.2.1, upd_ne (by omega), upd_ne (by omega), upd_ne (by omega), upd_ne (by omega)]; exact h40
    have hs7 := mS2.of k7.1.1.1
    refine gX11_part_270 (lt := lt) (n := n) (zRef_s2 hs7 z0).1 ((zRef_s2 hs7 z0).2.2.2.2.2.2.1) ((zRef_s2 hs7 z0).2.2.2.2.2.2.2.2.2.2.2.2.2.2.2.2.2.2.2.2.2.2.2.2.2.2.2.1) (by unfold vp_in; decide) ?_
    intro w8 e8
    have k8 := pT_s k7 e8
    have x1e : (uNum 1 99 lt n (rP w1 a0) (hfi w1 a0 10)).1 = r1.1 := by rw [k1.1.2.2.1, k1.1.2.2.2.1, hr1]
    have x2e : (uSg 50 lt n (rP w5 a0) (hfi w5 a0 10)).1 = r3.1 := by rw [k5.1.2.2.1, k5.1.2.2.2.1, hr3]
    rw [e40, x1e, x2e, upd_sg hm1] at k8
    have D := seg_u (B := B) (k := x2) x20 hl hn50 hpn hr1 hs2 hr3
    exact part_end z0 k8 (by decide) hm (fun x hx => ⟨by rw [← (D.1 x hx).1], (D.1 x hx).2.symm⟩) (fun q hq => D.2 q hq)

