/-! the bond between class and reference: one world holds both, the bench at a, the reference at b, the law's row at b + 22 -/
def sAt (w w' : mH) (q : Nat) : Prop := hfi w' q = hfi w q ∧ hfl w' q = hfl w q ∧ hai w' q = hai w q ∧ hal w' q = hal w q
/-- a part of one call: of the bench's cells those of two stretches change, of the reference's those named -/
def oT (a b l1 h1 l2 h2 e : Nat) (F P : List Nat) (w w' : mH) : Prop :=
  hN w ≤ hN w' ∧ (∀ q, q < b + 23 → hk w' q = hk w q ∧ (q ≠ a + 148 → hfr w' q = hfr w q) ∧ har w' q = har w q) ∧
  (∀ q, q < b → (q < l1 ∨ h1 ≤ q) → (q < l2 ∨ h2 ≤ q) → sAt w w' q) ∧
  (∀ k, k ∉ F → hfi w' b k = hfi w b k) ∧ ((∀ j, 1 ≤ j → j < 22 → j ∉ P → hai w' (b + j) = hai w (b + j)) ∧ (19 ∉ P → hal w' (b + 19) = hal w (b + 19))) ∧
  (e = 0 → hfr w' (a + 148) = hfr w (a + 148) ∧ ∀ q, b + 23 ≤ q → hk w' q = hk w q ∧ sAt w w' q)
section
variable {a b l1 h1 l2 h2 e : Nat} {F P : List Nat} {w w1 w2 w' : mH}
theorem sAt.rf {q : Nat} : sAt w w q := ⟨rfl, rfl, rfl, rfl⟩
theorem sAt.tr {q : Nat} (h : sAt w w1 q) (g : sAt w1 w2 q) : sAt w w2 q := ⟨g.1.trans h.1, g.2.1.trans h.2.1, g.2.2.1.trans h.2.2.1, g.2.2.2.trans h.2.2.2⟩
theorem oT.rf : oT a b l1 h1 l2 h2 e F P w w := ⟨Nat.le_refl _, fun _ _ => ⟨rfl, fun _ => rfl, rfl⟩, fun _ _ _ _ => sAt.rf, fun _ _ => rfl, ⟨fun _ _ _ _ => rfl, fun _ => rfl⟩, fun _ => ⟨rfl, fun _ _ => ⟨rfl, sAt.rf⟩⟩⟩
theorem oT.tr (h : oT a b l1 h1 l2 h2 e F P w w1) (g : oT a b l1 h1 l2 h2 e F P w1 w2) : oT a b l1 h1 l2 h2 e F P w w2 := by
  obtain ⟨x1, x2, x3, x4, x5, x6⟩ := h
  obtain ⟨y1, y2, y3, y4, y5, y6⟩ := g
  exact ⟨Nat.le_trans x1 y1, fun q hq => ⟨(y2 q hq).1.trans (x2 q hq).1, fun hn => ((y2 q hq).2.1 hn).trans ((x2 q hq).2.1 hn), (y2 q hq).2.2.trans (x2 q hq).2.2⟩, fun q g1 g2 g3 => (x3 q g1 g2 g3).tr (y3 q g1 g2 g3), fun k hk => (y4 k hk).trans (x4 k hk), ⟨fun j g1 g2 g3 => (y5.1 j g1 g2 g3).trans (x5.1 j g1 g2 g3), fun g => (y5.2 g).trans (x5.2 g)⟩, fun he => ⟨(y6 he).1.trans (x6 he).1, fun q hq => ⟨((y6 he).2 q hq).1.trans ((x6 he).2 q hq).1, ((x6 he).2 q hq).2.tr ((y6 he).2 q hq).2⟩⟩⟩
theorem oT_c (h : mF2 l1 h1 l2 h2 w w') (q1 : h1 ≤ b) (q2 : h2 ≤ b) : oT a b l1 h1 l2 h2 e F P w w' :=
  ⟨Nat.le_of_eq h.1.2.2.2.symm, fun q _ => ⟨by rw [h.1.1], fun _ => by rw [h.1.2.1], by rw [h.1.2.2.1]⟩, fun q _ g2 g3 => ⟨h.hfi ⟨g2, g3⟩, h.hfl ⟨g2, g3⟩, h.hai ⟨g2, g3⟩, h.hal ⟨g2, g3⟩⟩, fun k _ => by rw [h.hfi (by omega)], ⟨fun j _ _ _ => h.hai (by omega), fun _ => h.hal (by omega)⟩, fun _ => ⟨by rw [h.1.2.1], fun q hq => ⟨by rw [h.1.1], h.hfi (by omega), h.hfl (by omega), h.hai (by omega), h.hal (by omega)⟩⟩⟩
theorem oT_sal {y : Int64} : oT a b l1 h1 l2 h2 e F P w (sal w (b + 22) 0 y) := by
  have o : ∀ q, q ≠ b + 22 → sAt w (sal w (b + 22) 0 y) q := fun q hq => ⟨by rw [e_hfi_sal], by rw [e_hfl_sal], by rw [e_hai_sal], by rw [e_hal_sal, up2_a _ _ _ hq]⟩
  exact ⟨Nat.le_refl _, fun q _ => ⟨rfl, fun _ => rfl, rfl⟩, fun q g _ _ => o q (by omega), fun k _ => rfl, ⟨fun j _ _ _ => rfl, fun _ => (o (b + 19) (by omega)).2.2.2⟩, fun _ => ⟨rfl, fun q hq => ⟨rfl, o q (by omega)⟩⟩⟩
theorem oT_snn {n : Nat} (hn : hN w ≤ n) : oT a b l1 h1 l2 h2 e F P w (snn w n) := ⟨hn, fun _ _ => ⟨rfl, fun _ => rfl, rfl⟩, fun _ _ _ _ => ⟨rfl, rfl, rfl, rfl⟩, fun _ _ => rfl, ⟨fun _ _ _ _ => rfl, fun _ => rfl⟩, fun _ => ⟨rfl, fun _ _ => ⟨rfl, rfl, rfl, rfl, rfl⟩⟩⟩
theorem oT_r (h : xF F P b w w') (hP : ∀ j ∈ P, 1 ≤ j ∧ j < 22) : oT a b l1 h1 l2 h2 e F P w w' := by
  obtain ⟨s, f1, f2, f3⟩ := h
  have o : ∀ q, (q < b ∨ b + 23 ≤ q) → sAt w w' q := fun q hq => ⟨(f1 q (by omega)).1, (f1 q (by omega)).2, (f3 q (fun j hj e => by have := hP j hj; omega)).1, (f3 q (fun j hj e => by have := hP j hj; omega)).2⟩
  exact ⟨Nat.le_of_eq s.2.2.2.symm, fun q _ => ⟨by rw [s.1], fun _ => by rw [s.2.1], by rw [s.2.2.1]⟩, fun q g _ _ => o q (Or.inl g), f2, ⟨fun j g1 g2 g3 => (f3 (b + j) (fun i hi e => g3 (by rw [show j = i by omega]; exact hi))).1, fun g => (f3 (b + 19) (fun i hi e => g (by rw [show 19 = i by omega]; exact hi))).2⟩, fun _ => ⟨by rw [s.2.1], fun q hq => ⟨by rw [s.1], o q (Or.inr hq)⟩⟩⟩
theorem oT_r1 (h : xF F (1 :: P) b w w') (hP : ∀ j ∈ (1 :: P), 1 ≤ j ∧ j < 22) (e1 : hai w' (b + 1) = hai w (b + 1)) : oT a b l1 h1 l2 h2 e F P w w' := by
  obtain ⟨x1, x2, x3, x4, x5, x6⟩ := oT_r (a := a) (l1 := l1) (h1 := h1) (l2 := l2) (h2 := h2) (e := e) h hP
  refine ⟨x1, x2, x3, x4, ⟨fun j g1 g2 g3 => ?_, fun g => x5.2 (fun q => by rcases List.mem_cons.mp q with q | q; exact absurd q (by decide); exact g q)⟩, x6⟩
  by_cases q : j = 1
  · rw [q]; exact e1
  · exact x5.1 j g1 g2 (fun r => by rcases List.mem_cons.mp r with r | r; exact q r; exact g3 r)
/-- cells of the bench that have stayed -/
def mIn (lo hi : Nat) (w w' : mH) : Prop := ∀ q, lo ≤ q → q < hi → sAt w w' q
theorem mIn.hfi {lo hi q : Nat} (h : mIn lo hi w w') (g : lo ≤ q ∧ q < hi) : hfi w' q = hfi w q := (h q g.1 g.2).1
theorem mIn.hfl {lo hi q : Nat} (h : mIn lo hi w w') (g : lo ≤ q ∧ q < hi) : hfl w' q = hfl w q := (h q g.1 g.2).2.1
theorem mIn.hai {lo hi q : Nat} (h : mIn lo hi w w') (g : lo ≤ q ∧ q < hi) : hai w' q = hai w q := (h q g.1 g.2).2.2.1
theorem mIn.hal {lo hi q : Nat} (h : mIn lo hi w w') (g : lo ≤ q ∧ q < hi) : hal w' q = hal w q := (h q g.1 g.2).2.2.2
theorem mIn.sub {lo hi l h : Nat} (f : mIn lo hi w w') (q1 : lo ≤ l) (q2 : h ≤ hi) : mIn l h w w' := fun q g1 g2 => f q (by omega) (by omega)
theorem oT.inn {lo hi : Nat} (h : oT a b l1 h1 l2 h2 e F P w w') (q0 : hi ≤ b) (q1 : hi ≤ l1 ∨ h1 ≤ lo) (q2 : hi ≤ l2 ∨ h2 ≤ lo) : mIn lo hi w w' := fun q g1 g2 => h.2.2.1 q (by omega) (by omega) (by omega)
theorem oT.fi {k : Nat} (h : oT a b l1 h1 l2 h2 e F P w w') (hk : k ∉ F) : hfi w' b k = hfi w b k := h.2.2.2.1 k hk
theorem oT.ai {j : Nat} (h : oT a b l1 h1 l2 h2 e F P w w') (g1 : 1 ≤ j) (g2 : j < 22) (g3 : j ∉ P) : hai w' (b + j) = hai w (b + j) := h.2.2.2.2.1.1 j g1 g2 g3
theorem oT.al (h : oT a b l1 h1 l2 h2 e F P w w') (g3 : 19 ∉ P) : hal w' (b + 19) = hal w (b + 19) := h.2.2.2.2.1.2 g3
end

theorem gRep_in {lo hi : Nat} {w w' : mH} {a : Nat} {A : Nat → Int32} (f : mIn lo hi w w') (h : lo ≤ a ∧ a + 4 ≤ hi) (z : gRep w a A) : gRep w' a A := by
  unfold gRep at z ⊢
  simp (disch := omega) only [f.hai, f.hfi]
  exact z
theorem tRep_in {lo hi : Nat} {w w' : mH} {a : Nat} {A : Nat → Int32} (f : mIn lo hi w w') (h : lo ≤ a ∧ a + 3 ≤ hi) (z : tRep w a A) : tRep w' a A := by
  unfold tRep at z ⊢
  simp (disch := omega) only [f.hai, f.hfi]
  exact z
theorem kRep_in {lo hi : Nat} {w w' : mH} {a : Nat} {A : Nat → Int32} (f : mIn lo hi w w') (h : lo ≤ a ∧ a + 7 ≤ hi) (z : kRep w a A) : kRep w' a A := by
  unfold kRep at z ⊢
  simp (disch := omega) only [f.hai, f.hfi]
  exact z
theorem sRep_in {lo hi : Nat} {w w' : mH} {a : Nat} {A : Nat → Int32} (f : mIn lo hi w w') (h : lo ≤ a ∧ a + 17 ≤ hi) (z : sRep w a A) : sRep w' a A := by
  obtain ⟨z1, z2, z3, z4, z5⟩ := z
  refine ⟨fun k hk => ?_, fun k hk => ?_, gRep_in f (by omega) z3, tRep_in f (by omega) z4, kRep_in f (by omega) z5⟩
  · rw [f.hai (by omega)]; exact z1 k hk
  · rw [f.hai (by omega)]; exact z2 k hk
theorem hRep_in {lo hi : Nat} {w w' : mH} {a c : Nat} {R : Nat → Nat → Int32} (f : mIn lo hi w w') (h : lo ≤ a ∧ a + 104 ≤ hi) (z : hRep w a c R) : hRep w' a c R := by
  obtain ⟨nx, h6, z1, z2, z3, z4⟩ := z
  refine ⟨nx, h6, by rw [f.hfi (by omega)]; exact z1, z2, by rw [f.hfi (by omega)]; exact z3, fun i hi => ?_⟩
  have hm : (nx + 6 - c + i) % 6 < 6 := Nat.mod_lt _ (by decide)
  exact sRep_in f (by omega) (z4 i hi)
theorem hRep_A {w : mH} {a c : Nat} {R R' : Nat → Nat → Int32} (h : ∀ i, i < c → ∀ k, k < 78 → R' i k = R i k) (z : hRep w a c R) : hRep w a c R' := by
  obtain ⟨nx, h6, z1, z2, z3, z4⟩ := z
  exact ⟨nx, h6, z1, z2, z3, fun i hi => sRep_A (h i hi) (z4 i hi)⟩
theorem tRw_in {lo hi : Nat} {w w' : mH} {a N : Nat} {T : Nat → Nat → Int32} (f : mIn lo hi w w') (h : lo ≤ a ∧ a + 7 ≤ hi) (z : tRw w a T N) : tRw w' a T N := by
  unfold tRw at z ⊢
  simp (disch := omega) only [f.hai, f.hfi]
  exact z
theorem rdL_in {lo hi : Nat} {w w' : mH} {a n : Nat} {lt : Nat → Nat} (f : mIn lo hi w w') (h : lo ≤ a ∧ a + 2 ≤ hi) (z : rdL w a lt n) : rdL w' a lt n := by
  unfold rdL at z ⊢
  simp (disch := omega) only [f.hai, f.hfi]
  exact z
def cNow (a b : Nat) (w : mH) : Prop := sRep w (a + 1) (hai w (b + 1)) ∧ aOK (hai w (b + 1))
def cHis (a b : Nat) (w : mH) : Prop := ∃ c, hfi w b 5 = nI c ∧ c ≤ 6 ∧ hRep w (a + 35) c (fun i => rwR w b (i + 1)) ∧ ∀ i, i < c → aOK (rwR w b (i + 1))
def cSav (a b : Nat) (w : mH) : Prop := (hfi w b 6 = 0 ∧ hfi w a 2 = 0) ∨ (hfi w b 6 = 1 ∧ hfi w a 2 = 1 ∧ sRep w (a + 18) (rwR w b 7) ∧ aOK (rwR w b 7))
def cRea (a b : Nat) (w : mH) : Prop := ∃ (n : Nat) (lt : Nat → Nat), rdL w (a + 139) lt n ∧ ltR w b lt n
def cErr (a b : Nat) (w : mH) : Prop := hfi w (a + 139) 2 = hfi w b 10
def cTra (a b : Nat) (w : mH) : Prop := ∃ (N : Nat) (T : Nat → Nat → Int32), N ≤ 200 ∧ tRw w (a + 158) T N ∧ hfi w b 26 = nI N ∧ hfi w b 25 = (if N = 0 then 0 else 1) ∧ (1 ≤ N → zL (hai w (b + 15)) T N (N + 1)) ∧ trOK T N
def cHel (a b : Nat) (w : mH) : Prop := ∃ M : Nat, M ≤ 200 ∧ hfi w (a + 165) 6 = nI M ∧ hfi w b 29 = nI M ∧ hfi w b 28 = (if M = 0 then 0 else 1) ∧ (1 ≤ M → ∀ t, t ≤ M → hai w (a + 166) t = hai w (b + 16) t ∧ ab (hai w (b + 16) t) 10000)
def cFnd (f o b : Nat) (w : mH) : Prop := (hai w (b + 17) f = 0 ∧ hfi w o 0 = 0) ∨ (hai w (b + 17) f = 1 ∧ hfi w o 0 = 1 ∧ (∀ g, g < 3 → hai w (o + 1) g = hai w (b + 18) (3 * f + g) ∧ 0 ≤ (hai w (b + 18) (3 * f + g)).toInt ∧ (hai w (b + 18) (3 * f + g)).toInt ≤ 999) ∧ hfl w o 2 = hal w (b + 19) f ∧ hfi w o 3 = hai w (b + 20) f)
def cTxt (a b : Nat) (w : mH) : Prop := ∃ p m : Nat, hfr w (a + 148) 0 = some p ∧ hk w p = (19, m) ∧ (m = 16 ∨ m = 34 ∨ m = 70 ∨ m = 142) ∧ hfi w (a + 148) 1 = 0 ∧ (∃ n, hfi w (a + 148) 3 = nI n ∧ n ≤ 142) ∧ (p = a + 149 ∨ b + 23 ≤ p) ∧ (∀ i, i < m → fits .byte (.int (hai w p i)) = true) ∧ p < hN w
def gI (a b : Nat) (w : mH) : Prop := a + 194 ≤ b ∧ b + 23 ≤ hN w ∧ zBen w a ∧ zRef w b ∧ hk w (b + 22) = (17, 1) ∧ cst w b ∧ cTxt a b w ∧ cNow a b w ∧ cHis a b w ∧ cSav a b w ∧ cRea a b w ∧ cErr a b w ∧ cTra a b w ∧ cHel a b w ∧ cFnd 0 (a + 190) b w ∧ cFnd 1 (a + 192) b w
section
variable {a b l1 h1 l2 h2 e : Nat} {F P : List Nat} {w w' : mH}
theorem rwR_o (T : oT a b l1 h1 l2 h2 e F P w w') (p : 1 ∉ P) (r : Nat) : rwR w' b r = rwR w b r := by
  funext k
  unfold rwR
  rw [T.ai (by decide) (by decide) p]
theorem cNow_o (T : oT a b l1 h1 l2 h2 e F P w w') (hb : a + 194 ≤ b) (q1 : a + 18 ≤ l1 ∨ h1 ≤ a + 1) (q2 : a + 18 ≤ l2 ∨ h2 ≤ a + 1) (p : 1 ∉ P) (c : cNow a b w) : cNow a b w' := by
  unfold cNow
  rw [T.ai (by decide) (by decide) p]
  exact ⟨sRep_in (T.inn (lo := a + 1) (hi := a + 18) (by omega) q1 q2) (by omega) c.1, c.2⟩
theorem cHis_o (T : oT a b l1 h1 l2 h2 e F P w w') (hb : a + 194 ≤ b) (q1 : a + 139 ≤ l1 ∨ h1 ≤ a + 35) (q2 : a + 139 ≤ l2 ∨ h2 ≤ a + 35) (f : 5 ∉ F) (p : 1 ∉ P) (c : cHis a b w) : cHis a b w' := by
  obtain ⟨n, c1, c2, c3, c4⟩ := c
  refine ⟨n, by rw [T.fi f]; exact c1, c2, ?_, fun i hi => by rw [rwR_o T p]; exact c4 i hi⟩
  rw [show (fun i => rwR w' b (i + 1)) = (fun i => rwR w b (i + 1)) from funext fun i => rwR_o T p _]
  exact hRep_in (T.inn (lo := a + 35) (hi := a + 139) (by omega) q1 q2) (by omega) c3
theorem cSav_o (T : oT a b l1 h1 l2 h2 e F P w w') (hb : a + 194 ≤ b) (q1 : a + 35 ≤ l1 ∨ (h1 ≤ a + 18 ∧ a + 1 ≤ l1) ∨ h1 ≤ a) (q2 : a + 35 ≤ l2 ∨ (h2 ≤ a + 18 ∧ a + 1 ≤ l2) ∨ h2 ≤ a) (f : 6 ∉ F) (p : ∀ k, k < 78 → rwR w' b 7 k = rwR w b 7 k) (c : cSav a b w) : cSav a b w' := by
  have i1 : mIn a (a + 1) w w' := T.inn (by omega) (by omega) (by omega)
  have i2 : mIn (a + 18) (a + 35) w w' := T.inn (by omega) (by omega) (by omega)
  unfold cSav
  rw [T.fi f, i1.hfi (by omega)]
  rcases c with c | ⟨c1, c2, c3, c4⟩
  · exact Or.inl c
  · exact Or.inr ⟨c1, c2, sRep_A p (sRep_in i2 (by omega) c3), aOK_c p c4⟩
theorem cRea_o (T : oT a b l1 h1 l2 h2 e F P w w') (hb : a + 194 ≤ b) (q1 : a + 141 ≤ l1 ∨ h1 ≤ a + 139) (q2 : a + 141 ≤ l2 ∨ h2 ≤ a + 139) (f : 8 ∉ F) (p : 5 ∉ P) (c : cRea a b w) : cRea a b w' := by
  obtain ⟨n, lt, c1, c2⟩ := c
  refine ⟨n, lt, rdL_in (T.inn (lo := a + 139) (hi := a + 141) (by omega) q1 q2) (by omega) c1, ?_⟩
  unfold ltR at c2 ⊢
  rw [T.fi f, T.ai (by decide) (by decide) p]
  exact c2
theorem cErr_o (T : oT a b l1 h1 l2 h2 e F P w w') (hb : a + 194 ≤ b) (q1 : a + 140 ≤ l1 ∨ h1 ≤ a + 139) (q2 : a + 140 ≤ l2 ∨ h2 ≤ a + 139) (f : 10 ∉ F) (c : cErr a b w) : cErr a b w' := by
  unfold cErr
  rw [T.fi f, (T.inn (lo := a + 139) (hi := a + 140) (by omega) q1 q2).hfi (by omega)]
  exact c
theorem cTra_o (T : oT a b l1 h1 l2 h2 e F P w w') (hb : a + 194 ≤ b) (q1 : a + 165 ≤ l1 ∨ h1 ≤ a + 158) (q2 : a + 165 ≤ l2 ∨ h2 ≤ a + 158) (f1 : 25 ∉ F) (f2 : 26 ∉ F) (p : 15 ∉ P) (c : cTra a b w) : cTra a b w' := by
  obtain ⟨N, X, c1, c2, c3, c4, c5⟩ := c
  refine ⟨N, X, c1, tRw_in (T.inn (lo := a + 158) (hi := a + 165) (by omega) q1 q2) (by omega) c2, by rw [T.fi f2]; exact c3, by rw [T.fi f1]; exact c4, ?_⟩
  rw [T.ai (by decide) (by decide) p]
  exact c5
theorem cHel_o (T : oT a b l1 h1 l2 h2 e F P w w') (hb : a + 194 ≤ b) (q1 : a + 167 ≤ l1 ∨ h1 ≤ a + 165) (q2 : a + 167 ≤ l2 ∨ h2 ≤ a + 165) (f1 : 28 ∉ F) (f2 : 29 ∉ F) (p : 16 ∉ P) (c : cHel a b w) : cHel a b w' := by
  obtain ⟨N, c1, c2, c3, c4, c5⟩ := c
  have i := T.inn (lo := a + 165) (hi := a + 167) (by omega) q1 q2
  refine ⟨N, c1, by rw [i.hfi (by omega)]; exact c2, by rw [T.fi f2]; exact c3, by rw [T.fi f1]; exact c4, ?_⟩
  rw [T.ai (by decide) (by decide) p, i.hai (by omega)]
  exact c5
theorem cFnd_o {f o : Nat} (T : oT a b l1 h1 l2 h2 e F P w w') (hb : o + 2 ≤ b) (q1 : o + 2 ≤ l1 ∨ h1 ≤ o) (q2 : o + 2 ≤ l2 ∨ h2 ≤ o) (p1 : 17 ∉ P) (p2 : 18 ∉ P) (p3 : 19 ∉ P) (p4 : 20 ∉ P) (c : cFnd f o b w) : cFnd f o b w' := by
  have i := T.inn (lo := o) (hi := o + 2) (by omega) q1 q2
  unfold cFnd
  rw [T.ai (by decide) (by decide) p1, T.ai (by decide) (by decide) p2, T.al p3, T.ai (by decide) (by decide) p4, i.hfi (by omega), i.hfl (by omega), i.hai (by omega)]
  exact c
theorem cTxt_o (T : oT a b l1 h1 l2 h2 e F P w w') (he : e = 0) (hb : a + 194 ≤ b) (q1 : a + 150 ≤ l1 ∨ h1 ≤ a + 148) (q2 : a + 150 ≤ l2 ∨ h2 ≤ a + 148) (c : cTxt a b w) : cTxt a b w' := by
  obtain ⟨p, m, c1, c2, c3, c4, c5, c6, c7, c8⟩ := c
  have i := T.inn (lo := a + 148) (hi := a + 150) (by omega) q1 q2
  refine ⟨p, m, by rw [(T.2.2.2.2.2 he).1]; exact c1, ?_, c3, by rw [i.hfi (by omega)]; exact c4, by rw [i.hfi (by omega)]; exact c5, c6, ?_, Nat.lt_of_lt_of_le c8 T.1⟩
  · rcases c6 with h | h
    · rw [(T.2.1 p (by omega)).1]; exact c2
    · rw [((T.2.2.2.2.2 he).2 p h).1]; exact c2
  · rcases c6 with h | h
    · rw [i.hai (by omega)]; exact c7
    · rw [((T.2.2.2.2.2 he).2 p h).2.2.2.1]; exact c7
theorem cst_o (T : oT a b l1 h1 l2 h2 e F P w w') (p1 : 2 ∉ P) (p2 : 3 ∉ P) (c : cst w b) : cst w' b := by
  unfold cst
  rw [T.ai (by decide) (by decide) p1, T.ai (by decide) (by decide) p2]
  exact c
end
theorem zGrid_so {w w' : mH} {x B : Nat} (h : ∀ q, q < B → hk w' q = hk w q ∧ (q ≠ x → hfr w' q = hfr w q) ∧ har w' q = har w q) {c : Nat} (hc : c + 4 ≤ B) (hx : c + 4 ≤ x ∨ x < c) (z : zGrid w c) : zGrid w' c := ⟨by rw [(h _ (by omega)).1]; exact z.1, by rw [(h _ (by omega)).2.1 (by omega)]; exact z.2.1, by rw [(h _ (by omega)).2.1 (by omega)]; exact z.2.2.1, by rw [(h _ (by omega)).2.1 (by omega)]; exact z.2.2.2.1, by rw [(h _ (by omega)).1]; exact z.2.2.2.2.1, by rw [(h _ (by omega)).1]; exact z.2.2.2.2.2.1, by rw [(h _ (by omega)).1]; exact z.2.2.2.2.2.2⟩
theorem zTab_so {w w' : mH} {x B : Nat} (h : ∀ q, q < B → hk w' q = hk w q ∧ (q ≠ x → hfr w' q = hfr w q) ∧ har w' q = har w q) {c : Nat} (hc : c + 3 ≤ B) (hx : c + 3 ≤ x ∨ x < c) (z : zTab w c) : zTab w' c := ⟨by rw [(h _ (by omega)).1]; exact z.1, by rw [(h _ (by omega)).2.1 (by omega)]; exact z.2.1, by rw [(h _ (by omega)).2.1 (by omega)]; exact z.2.2.1, by rw [(h _ (by omega)).1]; exact z.2.2.2.1, by rw [(h _ (by omega)).1]; exact z.2.2.2.2⟩
theorem zTrk_so {w w' : mH} {x B : Nat} (h : ∀ q, q < B → hk w' q = hk w q ∧ (q ≠ x → hfr w' q = hfr w q) ∧ har w' q = har w q) {c : Nat} (hc : c + 7 ≤ B) (hx : c + 7 ≤ x ∨ x < c) (z : zTrk w c) : zTrk w' c := ⟨by rw [(h _ (by omega)).1]; exact z.1, by rw [(h _ (by omega)).2.1 (by omega)]; exact z.2.1, by rw [(h _ (by omega)).2.1 (by omega)]; exact z.2.2.1, by rw [(h _ (by omega)).2.1 (by omega)]; exact z.2.2.2.1, by rw [(h _ (by omega)).2.1 (by omega)]; exact z.2.2.2.2.1, by rw [(h _ (by omega)).2.1 (by omega)]; exact z.2.2.2.2.2.1, by rw [(h _ (by omega)).2.1 (by omega)]; exact z.2.2.2.2.2.2.1, by rw [(h _ (by omega)).1]; exact z.2.2.2.2.2.2.2.1, by rw [(h _ (by omega)).1]; exact z.2.2.2.2.2.2.2.2.1, by rw [(h _ (by omega)).1]; exact z.2.2.2.2.2.2.2.2.2.1, by rw [(h _ (by omega)).1]; exact z.2.2.2.2.2.2.2.2.2.2.1, by rw [(h _ (by omega)).1]; exact z.2.2.2.2.2.2.2.2.2.2.2.1, by rw [(h _ (by omega)).1]; exact z.2.2.2.2.2.2.2.2.2.2.2.2⟩
theorem zSet_so {w w' : mH} {x B : Nat} (h : ∀ q, q < B → hk w' q = hk w q ∧ (q ≠ x → hfr w' q = hfr w q) ∧ har w' q = har w q) {c : Nat} (hc : c + 17 ≤ B) (hx : c + 17 ≤ x ∨ x < c) (z : zSet w c) : zSet w' c := ⟨by rw [(h _ (by omega)).1]; exact z.1, by rw [(h _ (by omega)).2.1 (by omega)]; exact z.2.1, by rw [(h _ (by omega)).2.1 (by omega)]; exact z.2.2.1, by rw [(h _ (by omega)).2.1 (by omega)]; exact z.2.2.2.1, by rw [(h _ (by omega)).2.1 (by omega)]; exact z.2.2.2.2.1, by rw [(h _ (by omega)).2.1 (by omega)]; exact z.2.2.2.2.2.1, by rw [(h _ (by omega)).1]; exact z.2.2.2.2.2.2.1, by rw [(h _ (by omega)).1]; exact z.2.2.2.2.2.2.2.1, zGrid_so h (by omega) (by omega) z.2.2.2.2.2.2.2.2.1, zTab_so h (by omega) (by omega) z.2.2.2.2.2.2.2.2.2.1, zTrk_so h (by omega) (by omega) z.2.2.2.2.2.2.2.2.2.2⟩
theorem zTra_so {w w' : mH} {x B : Nat} (h : ∀ q, q < B → hk w' q = hk w q ∧ (q ≠ x → hfr w' q = hfr w q) ∧ har w' q = har w q) {c : Nat} (hc : c + 7 ≤ B) (hx : c + 7 ≤ x ∨ x < c) (z : zTra w c) : zTra w' c := ⟨by rw [(h _ (by omega)).1]; exact z.1, by rw [(h _ (by omega)).2.1 (by omega)]; exact z.2.1, by rw [(h _ (by omega)).2.1 (by omega)]; exact z.2.2.1, by rw [(h _ (by omega)).2.1 (by omega)]; exact z.2.2.2.1, by rw [(h _ (by omega)).2.1 (by omega)]; exact z.2.2.2.2.1, by rw [(h _ (by omega)).2.1 (by omega)]; exact z.2.2.2.2.2.1, by rw [(h _ (by omega)).2.1 (by omega)]; exact z.2.2.2.2.2.2.1, by rw [(h _ (by omega)).1]; exact z.2.2.2.2.2.2.2.1, by rw [(h _ (by omega)).1]; exact z.2.2.2.2.2.2.2.2.1, by rw [(h _ (by omega)).1]; exact z.2.2.2.2.2.2.2.2.2.1, by rw [(h _ (by omega)).1]; exact z.2.2.2.2.2.2.2.2.2.2.1, by rw [(h _ (by omega)).1]; exact z.2.2.2.2.2.2.2.2.2.2.2.1, by rw [(h _ (by omega)).1]; exact z.2.2.2.2.2.2.2.2.2.2.2.2⟩
theorem zSim_so {w w' : mH} {x B : Nat} (h : ∀ q, q < B → hk w' q = hk w q ∧ (q ≠ x → hfr w' q = hfr w q) ∧ har w' q = har w q) {c : Nat} (hc : c + 8 ≤ B) (hx : c + 8 ≤ x ∨ x < c) (z : zSim w c) : zSim w' c := ⟨by rw [(h _ (by omega)).1]; exact z.1, by rw [(h _ (by omega)).2.1 (by omega)]; exact z.2.1, by rw [(h _ (by omega)).2.1 (by omega)]; exact z.2.2.1, by rw [(h _ (by omega)).2.1 (by omega)]; exact z.2.2.2.1, by rw [(h _ (by omega)).2.1 (by omega)]; exact z.2.2.2.2.1, by rw [(h _ (by omega)).2.1 (by omega)]; exact z.2.2.2.2.2.1, by rw [(h _ (by omega)).1]; exact z.2.2.2.2.2.2.1, zTab_so h (by omega) (by omega) z.2.2.2.2.2.2.2.1, by rw [(h _ (by omega)).1]; exact z.2.2.2.2.2.2.2.2.1, by rw [(h _ (by omega)).1]; exact z.2.2.2.2.2.2.2.2.2.1, by rw [(h _ (by omega)).1]; exact z.2.2.2.2.2.2.2.2.2.2⟩
theorem zFnd_so {w w' : mH} {x B : Nat} (h : ∀ q, q < B → hk w' q = hk w q ∧ (q ≠ x → hfr w' q = hfr w q) ∧ har w' q = har w q) {c : Nat} (hc : c + 2 ≤ B) (hx : c + 2 ≤ x ∨ x < c) (z : zFnd w c) : zFnd w' c := ⟨by rw [(h _ (by omega)).1]; exact z.1, by rw [(h _ (by omega)).2.1 (by omega)]; exact z.2.1, by rw [(h _ (by omega)).1]; exact z.2.2⟩
theorem zTun_so {w w' : mH} {x B : Nat} (h : ∀ q, q < B → hk w' q = hk w q ∧ (q ≠ x → hfr w' q = hfr w q) ∧ har w' q = har w q) {c : Nat} (hc : c + 18 ≤ B) (hx : c + 18 ≤ x ∨ x < c) (z : zTun w c) : zTun w' c := ⟨by rw [(h _ (by omega)).1]; exact z.1, by rw [(h _ (by omega)).2.1 (by omega)]; exact z.2.1, by rw [(h _ (by omega)).2.1 (by omega)]; exact z.2.2.1, by rw [(h _ (by omega)).2.1 (by omega)]; exact z.2.2.2.1, by rw [(h _ (by omega)).2.1 (by omega)]; exact z.2.2.2.2.1, zSim_so h (by omega) (by omega) z.2.2.2.2.2.1, zTra_so h (by omega) (by omega) z.2.2.2.2.2.2.1, by rw [(h _ (by omega)).1]; exact z.2.2.2.2.2.2.2.1, by rw [(h _ (by omega)).1]; exact z.2.2.2.2.2.2.2.2⟩
theorem zRea_so {w w' : mH} {x B : Nat} (h : ∀ q, q < B → hk w' q = hk w q ∧ (q ≠ x → hfr w' q = hfr w q) ∧ har w' q = har w q) {c : Nat} (hc : c + 9 ≤ B) (hx : c + 9 ≤ x ∨ x < c) (z : zRea w c) : zRea w' c := ⟨by rw [(h _ (by omega)).1]; exact z.1, by rw [(h _ (by omega)).2.1 (by omega)]; exact z.2.1, by rw [(h _ (by omega)).2.1 (by omega)]; exact z.2.2.1, by rw [(h _ (by omega)).1]; exact z.2.2.2.1, zTrk_so h (by omega) (by omega) z.2.2.2.2⟩
theorem zHis_so {w w' : mH} {x B : Nat} (h : ∀ q, q < B → hk w' q = hk w q ∧ (q ≠ x → hfr w' q = hfr w q) ∧ har w' q = har w q) {c : Nat} (hc : c + 104 ≤ B) (hx : c + 104 ≤ x ∨ x < c) (z : zHis w c) : zHis w' c := ⟨by rw [(h _ (by omega)).1]; exact z.1, by rw [(h _ (by omega)).2.1 (by omega)]; exact z.2.1, by rw [(h _ (by omega)).1]; exact z.2.2.1, fun k hk => ⟨by rw [(h _ (by omega)).2.2]; exact (z.2.2.2 k hk).1, zSet_so h (by omega) (by omega) (z.2.2.2 k hk).2⟩⟩
theorem zBen_so {w w' : mH} {x B : Nat} (h : ∀ q, q < B → hk w' q = hk w q ∧ (q ≠ x → hfr w' q = hfr w q) ∧ har w' q = har w q) {c : Nat} (hc : c + 194 ≤ B) (hx : x = c + 148) (z : zBen w c) : zBen w' c := ⟨by rw [(h _ (by omega)).1]; exact z.1, by rw [(h _ (by omega)).2.1 (by omega)]; exact z.2.1, by rw [(h _ (by omega)).2.1 (by omega)]; exact z.2.2.1, by rw [(h _ (by omega)).2.1 (by omega)]; exact z.2.2.2.1, by rw [(h _ (by omega)).2.1 (by omega)]; exact z.2.2.2.2.1, by rw [(h _ (by omega)).2.1 (by omega)]; exact z.2.2.2.2.2.1, by rw [(h _ (by omega)).2.1 (by omega)]; exact z.2.2.2.2.2.2.1, by rw [(h _ (by omega)).2.1 (by omega)]; exact z.2.2.2.2.2.2.2.1, by rw [(h _ (by omega)).2.1 (by omega)]; exact z.2.2.2.2.2.2.2.2.1, by rw [(h _ (by omega)).2.1 (by omega)]; exact z.2.2.2.2.2.2.2.2.2.1, by rw [(h _ (by omega)).2.1 (by omega)]; exact z.2.2.2.2.2.2.2.2.2.2.1, zSet_so h (by omega) (by omega) z.2.2.2.2.2.2.2.2.2.2.2.1, zSet_so h (by omega) (by omega) z.2.2.2.2.2.2.2.2.2.2.2.2.1, zHis_so h (by omega) (by omega) z.2.2.2.2.2.2.2.2.2.2.2.2.2.1, zRea_so h (by omega) (by omega) z.2.2.2.2.2.2.2.2.2.2.2.2.2.2.1, zSim_so h (by omega) (by omega) z.2.2.2.2.2.2.2.2.2.2.2.2.2.2.2.1, zTra_so h (by omega) (by omega) z.2.2.2.2.2.2.2.2.2.2.2.2.2.2.2.2.1, zTra_so h (by omega) (by omega) z.2.2.2.2.2.2.2.2.2.2.2.2.2.2.2.2.2.1, zTun_so h (by omega) (by omega) z.2.2.2.2.2.2.2.2.2.2.2.2.2.2.2.2.2.2.1, zFnd_so h (by omega) (by omega) z.2.2.2.2.2.2.2.2.2.2.2.2.2.2.2.2.2.2.2.1, zFnd_so h (by omega) (by omega) z.2.2.2.2.2.2.2.2.2.2.2.2.2.2.2.2.2.2.2.2.1, by rw [(h _ (by omega)).2.1 (by omega)]; exact z.2.2.2.2.2.2.2.2.2.2.2.2.2.2.2.2.2.2.2.2.2.1, by rw [(h _ (by omega)).1]; exact z.2.2.2.2.2.2.2.2.2.2.2.2.2.2.2.2.2.2.2.2.2.2⟩
theorem zRef_so {w w' : mH} {x B : Nat} (h : ∀ q, q < B → hk w' q = hk w q ∧ (q ≠ x → hfr w' q = hfr w q) ∧ har w' q = har w q) {c : Nat} (hc : c + 22 ≤ B) (hx : c + 22 ≤ x ∨ x < c) (z : zRef w c) : zRef w' c := ⟨by rw [(h _ (by omega)).1]; exact z.1, by rw [(h _ (by omega)).2.1 (by omega)]; exact z.2.1, by rw [(h _ (by omega)).2.1 (by omega)]; exact z.2.2.1, by rw [(h _ (by omega)).2.1 (by omega)]; exact z.2.2.2.1, by rw [(h _ (by omega)).2.1 (by omega)]; exact z.2.2.2.2.1, by rw [(h _ (by omega)).2.1 (by omega)]; exact z.2.2.2.2.2.1, by rw [(h _ (by omega)).2.1 (by omega)]; exact z.2.2.2.2.2.2.1, by rw [(h _ (by omega)).2.1 (by omega)]; exact z.2.2.2.2.2.2.2.1, by rw [(h _ (by omega)).2.1 (by omega)]; exact z.2.2.2.2.2.2.2.2.1, by rw [(h _ (by omega)).2.1 (by omega)]; exact z.2.2.2.2.2.2.2.2.2.1, by rw [(h _ (by omega)).2.1 (by omega)]; exact z.2.2.2.2.2.2.2.2.2.2.1, by rw [(h _ (by omega)).2.1 (by omega)]; exact z.2.2.2.2.2.2.2.2.2.2.2.1, by rw [(h _ (by omega)).2.1 (by omega)]; exact z.2.2.2.2.2.2.2.2.2.2.2.2.1, by rw [(h _ (by omega)).2.1 (by omega)]; exact z.2.2.2.2.2.2.2.2.2.2.2.2.2.1, by rw [(h _ (by omega)).2.1 (by omega)]; exact z.2.2.2.2.2.2.2.2.2.2.2.2.2.2.1, by rw [(h _ (by omega)).2.1 (by omega)]; exact z.2.2.2.2.2.2.2.2.2.2.2.2.2.2.2.1, by rw [(h _ (by omega)).2.1 (by omega)]; exact z.2.2.2.2.2.2.2.2.2.2.2.2.2.2.2.2.1, by rw [(h _ (by omega)).2.1 (by omega)]; exact z.2.2.2.2.2.2.2.2.2.2.2.2.2.2.2.2.2.1, by rw [(h _ (by omega)).2.1 (by omega)]; exact z.2.2.2.2.2.2.2.2.2.2.2.2.2.2.2.2.2.2.1, by rw [(h _ (by omega)).2.1 (by omega)]; exact z.2.2.2.2.2.2.2.2.2.2.2.2.2.2.2.2.2.2.2.1, by rw [(h _ (by omega)).2.1 (by omega)]; exact z.2.2.2.2.2.2.2.2.2.2.2.2.2.2.2.2.2.2.2.2.1, by rw [(h _ (by omega)).2.1 (by omega)]; exact z.2.2.2.2.2.2.2.2.2.2.2.2.2.2.2.2.2.2.2.2.2.1, by rw [(h _ (by omega)).1]; exact z.2.2.2.2.2.2.2.2.2.2.2.2.2.2.2.2.2.2.2.2.2.2.1, by rw [(h _ (by omega)).1]; exact z.2.2.2.2.2.2.2.2.2.2.2.2.2.2.2.2.2.2.2.2.2.2.2.1, by rw [(h _ (by omega)).1]; exact z.2.2.2.2.2.2.2.2.2.2.2.2.2.2.2.2.2.2.2.2.2.2.2.2.1, by rw [(h _ (by omega)).1]; exact z.2.2.2.2.2.2.2.2.2.2.2.2.2.2.2.2.2.2.2.2.2.2.2.2.2.1, by rw [(h _ (by omega)).1]; exact z.2.2.2.2.2.2.2.2.2.2.2.2.2.2.2.2.2.2.2.2.2.2.2.2.2.2.1, by rw [(h _ (by omega)).1]; exact z.2.2.2.2.2.2.2.2.2.2.2.2.2.2.2.2.2.2.2.2.2.2.2.2.2.2.2.1, by rw [(h _ (by omega)).1]; exact z.2.2.2.2.2.2.2.2.2.2.2.2.2.2.2.2.2.2.2.2.2.2.2.2.2.2.2.2.1, by rw [(h _ (by omega)).1]; exact z.2.2.2.2.2.2.2.2.2.2.2.2.2.2.2.2.2.2.2.2.2.2.2.2.2.2.2.2.2.1, by rw [(h _ (by omega)).1]; exact z.2.2.2.2.2.2.2.2.2.2.2.2.2.2.2.2.2.2.2.2.2.2.2.2.2.2.2.2.2.2.1, by rw [(h _ (by omega)).1]; exact z.2.2.2.2.2.2.2.2.2.2.2.2.2.2.2.2.2.2.2.2.2.2.2.2.2.2.2.2.2.2.2.1, by rw [(h _ (by omega)).1]; exact z.2.2.2.2.2.2.2.2.2.2.2.2.2.2.2.2.2.2.2.2.2.2.2.2.2.2.2.2.2.2.2.2.1, by rw [(h _ (by omega)).1]; exact z.2.2.2.2.2.2.2.2.2.2.2.2.2.2.2.2.2.2.2.2.2.2.2.2.2.2.2.2.2.2.2.2.2.1, by rw [(h _ (by omega)).1]; exact z.2.2.2.2.2.2.2.2.2.2.2.2.2.2.2.2.2.2.2.2.2.2.2.2.2.2.2.2.2.2.2.2.2.2.1, by rw [(h _ (by omega)).1]; exact z.2.2.2.2.2.2.2.2.2.2.2.2.2.2.2.2.2.2.2.2.2.2.2.2.2.2.2.2.2.2.2.2.2.2.2.1, by rw [(h _ (by omega)).1]; exact z.2.2.2.2.2.2.2.2.2.2.2.2.2.2.2.2.2.2.2.2.2.2.2.2.2.2.2.2.2.2.2.2.2.2.2.2.1, by rw [(h _ (by omega)).1]; exact z.2.2.2.2.2.2.2.2.2.2.2.2.2.2.2.2.2.2.2.2.2.2.2.2.2.2.2.2.2.2.2.2.2.2.2.2.2.1, by rw [(h _ (by omega)).1]; exact z.2.2.2.2.2.2.2.2.2.2.2.2.2.2.2.2.2.2.2.2.2.2.2.2.2.2.2.2.2.2.2.2.2.2.2.2.2.2.1, by rw [(h _ (by omega)).1]; exact z.2.2.2.2.2.2.2.2.2.2.2.2.2.2.2.2.2.2.2.2.2.2.2.2.2.2.2.2.2.2.2.2.2.2.2.2.2.2.2.1, by rw [(h _ (by omega)).1]; exact z.2.2.2.2.2.2.2.2.2.2.2.2.2.2.2.2.2.2.2.2.2.2.2.2.2.2.2.2.2.2.2.2.2.2.2.2.2.2.2.2.1, by rw [(h _ (by omega)).1]; exact z.2.2.2.2.2.2.2.2.2.2.2.2.2.2.2.2.2.2.2.2.2.2.2.2.2.2.2.2.2.2.2.2.2.2.2.2.2.2.2.2.2.1, by rw [(h _ (by omega)).1]; exact z.2.2.2.2.2.2.2.2.2.2.2.2.2.2.2.2.2.2.2.2.2.2.2.2.2.2.2.2.2.2.2.2.2.2.2.2.2.2.2.2.2.2⟩
theorem zBen_o {a b l1 h1 l2 h2 e : Nat} {F P : List Nat} {w w' : mH} (T : oT a b l1 h1 l2 h2 e F P w w') (hb : a + 194 ≤ b) (z : zBen w a) : zBen w' a := zBen_so (x := a + 148) T.2.1 (by omega) rfl z
theorem zRef_o {a b l1 h1 l2 h2 e : Nat} {F P : List Nat} {w w' : mH} (T : oT a b l1 h1 l2 h2 e F P w w') (hb : a + 194 ≤ b) (z : zRef w b) : zRef w' b := zRef_so (x := a + 148) T.2.1 (by omega) (Or.inr (by omega)) z
