/-! shapes of objects by fixed offsets; contents; takeOver -/
def zGrid (w : mH) (a : Nat) : Prop := hk w a = (1, 0) ∧ hfr w a 0 = some (a + 1) ∧ hfr w a 1 = some (a + 2) ∧ hfr w a 2 = some (a + 3) ∧ hk w (a + 1) = (16, 3) ∧ hk w (a + 2) = (16, 3) ∧ hk w (a + 3) = (16, 3)
theorem zGrid_sh {w w' : mH} (h : mSh w w') {a : Nat} (z : zGrid w a) : zGrid w' a := by
  unfold zGrid at z ⊢
  rw [h.1, h.2.1]
  exact z
def zTab (w : mH) (a : Nat) : Prop := hk w a = (5, 0) ∧ hfr w a 0 = some (a + 1) ∧ hfr w a 1 = some (a + 2) ∧ hk w (a + 1) = (16, 5) ∧ hk w (a + 2) = (16, 5)
theorem zTab_sh {w w' : mH} (h : mSh w w') {a : Nat} (z : zTab w a) : zTab w' a := by
  unfold zTab at z ⊢
  rw [h.1, h.2.1]
  exact z
def zTrk (w : mH) (a : Nat) : Prop := hk w a = (7, 0) ∧ hfr w a 0 = some (a + 1) ∧ hfr w a 1 = some (a + 2) ∧ hfr w a 2 = some (a + 3) ∧ hfr w a 4 = some (a + 4) ∧ hfr w a 5 = some (a + 5) ∧ hfr w a 6 = some (a + 6) ∧ hk w (a + 1) = (16, 8) ∧ hk w (a + 2) = (16, 8) ∧ hk w (a + 3) = (16, 8) ∧ hk w (a + 4) = (16, 4) ∧ hk w (a + 5) = (16, 4) ∧ hk w (a + 6) = (16, 4)
theorem zTrk_sh {w w' : mH} (h : mSh w w') {a : Nat} (z : zTrk w a) : zTrk w' a := by
  unfold zTrk at z ⊢
  rw [h.1, h.2.1]
  exact z
def zSet (w : mH) (a : Nat) : Prop := hk w a = (3, 0) ∧ hfr w a 0 = some (a + 1) ∧ hfr w a 1 = some (a + 2) ∧ hfr w a 2 = some (a + 3) ∧ hfr w a 3 = some (a + 7) ∧ hfr w a 4 = some (a + 10) ∧ hk w (a + 1) = (16, 15) ∧ hk w (a + 2) = (16, 5) ∧ zGrid w (a + 3) ∧ zTab w (a + 7) ∧ zTrk w (a + 10)
theorem zSet_sh {w w' : mH} (h : mSh w w') {a : Nat} (z : zSet w a) : zSet w' a := ⟨by rw [h.1]; exact z.1, by rw [h.2.1]; exact z.2.1, by rw [h.2.1]; exact z.2.2.1, by rw [h.2.1]; exact z.2.2.2.1, by rw [h.2.1]; exact z.2.2.2.2.1, by rw [h.2.1]; exact z.2.2.2.2.2.1, by rw [h.1]; exact z.2.2.2.2.2.2.1, by rw [h.1]; exact z.2.2.2.2.2.2.2.1, zGrid_sh h z.2.2.2.2.2.2.2.2.1, zTab_sh h z.2.2.2.2.2.2.2.2.2.1, zTrk_sh h z.2.2.2.2.2.2.2.2.2.2⟩
def zTra (w : mH) (a : Nat) : Prop := hk w a = (6, 0) ∧ hfr w a 0 = some (a + 1) ∧ hfr w a 1 = some (a + 2) ∧ hfr w a 2 = some (a + 3) ∧ hfr w a 3 = some (a + 4) ∧ hfr w a 4 = some (a + 5) ∧ hfr w a 5 = some (a + 6) ∧ hk w (a + 1) = (16, 201) ∧ hk w (a + 2) = (16, 200) ∧ hk w (a + 3) = (16, 200) ∧ hk w (a + 4) = (16, 200) ∧ hk w (a + 5) = (16, 200) ∧ hk w (a + 6) = (16, 200)
theorem zTra_sh {w w' : mH} (h : mSh w w') {a : Nat} (z : zTra w a) : zTra w' a := by
  unfold zTra at z ⊢
  rw [h.1, h.2.1]
  exact z
def zSim (w : mH) (a : Nat) : Prop := hk w a = (4, 0) ∧ hfr w a 0 = some (a + 1) ∧ hfr w a 1 = some (a + 2) ∧ hfr w a 2 = some (a + 5) ∧ hfr w a 3 = some (a + 6) ∧ hfr w a 4 = some (a + 7) ∧ hk w (a + 1) = (16, 15) ∧ zTab w (a + 2) ∧ hk w (a + 5) = (16, 200) ∧ hk w (a + 6) = (16, 200) ∧ hk w (a + 7) = (16, 200)
theorem zSim_sh {w w' : mH} (h : mSh w w') {a : Nat} (z : zSim w a) : zSim w' a := ⟨by rw [h.1]; exact z.1, by rw [h.2.1]; exact z.2.1, by rw [h.2.1]; exact z.2.2.1, by rw [h.2.1]; exact z.2.2.2.1, by rw [h.2.1]; exact z.2.2.2.2.1, by rw [h.2.1]; exact z.2.2.2.2.2.1, by rw [h.1]; exact z.2.2.2.2.2.2.1, zTab_sh h z.2.2.2.2.2.2.2.1, by rw [h.1]; exact z.2.2.2.2.2.2.2.2.1, by rw [h.1]; exact z.2.2.2.2.2.2.2.2.2.1, by rw [h.1]; exact z.2.2.2.2.2.2.2.2.2.2⟩
def zFnd (w : mH) (a : Nat) : Prop := hk w a = (0, 0) ∧ hfr w a 1 = some (a + 1) ∧ hk w (a + 1) = (16, 3)
theorem zFnd_sh {w w' : mH} (h : mSh w w') {a : Nat} (z : zFnd w a) : zFnd w' a := by
  unfold zFnd at z ⊢
  rw [h.1, h.2.1]
  exact z
def zTun (w : mH) (a : Nat) : Prop := hk w a = (9, 0) ∧ hfr w a 0 = some (a + 1) ∧ hfr w a 1 = some (a + 9) ∧ hfr w a 2 = some (a + 16) ∧ hfr w a 3 = some (a + 17) ∧ zSim w (a + 1) ∧ zTra w (a + 9) ∧ hk w (a + 16) = (17, 216) ∧ hk w (a + 17) = (16, 3)
theorem zTun_sh {w w' : mH} (h : mSh w w') {a : Nat} (z : zTun w a) : zTun w' a := ⟨by rw [h.1]; exact z.1, by rw [h.2.1]; exact z.2.1, by rw [h.2.1]; exact z.2.2.1, by rw [h.2.1]; exact z.2.2.2.1, by rw [h.2.1]; exact z.2.2.2.2.1, zSim_sh h z.2.2.2.2.2.1, zTra_sh h z.2.2.2.2.2.2.1, by rw [h.1]; exact z.2.2.2.2.2.2.2.1, by rw [h.1]; exact z.2.2.2.2.2.2.2.2⟩
def zRea (w : mH) (a : Nat) : Prop := hk w a = (8, 0) ∧ hfr w a 0 = some (a + 1) ∧ hfr w a 3 = some (a + 2) ∧ hk w (a + 1) = (18, 50) ∧ zTrk w (a + 2)
theorem zRea_sh {w w' : mH} (h : mSh w w') {a : Nat} (z : zRea w a) : zRea w' a := ⟨by rw [h.1]; exact z.1, by rw [h.2.1]; exact z.2.1, by rw [h.2.1]; exact z.2.2.1, by rw [h.1]; exact z.2.2.2.1, zTrk_sh h z.2.2.2.2⟩
def zHis (w : mH) (a : Nat) : Prop := hk w a = (2, 0) ∧ hfr w a 0 = some (a + 1) ∧ hk w (a + 1) = (21, 6) ∧ ∀ k, k < 6 → har w (a + 1) k = some (a + (2 + 17 * k)) ∧ zSet w (a + (2 + 17 * k))
theorem zHis_sh {w w' : mH} (h : mSh w w') {a : Nat} (z : zHis w a) : zHis w' a := ⟨by rw [h.1]; exact z.1, by rw [h.2.1]; exact z.2.1, by rw [h.1]; exact z.2.2.1, fun k hk => ⟨by rw [h.2.2.1]; exact (z.2.2.2 k hk).1, zSet_sh h (z.2.2.2 k hk).2⟩⟩
def zBen (w : mH) (a : Nat) : Prop := hk w a = (10, 0) ∧ hfr w a 0 = some (a + 1) ∧ hfr w a 1 = some (a + 18) ∧ hfr w a 3 = some (a + 35) ∧ hfr w a 4 = some (a + 139) ∧ hfr w a 6 = some (a + 150) ∧ hfr w a 7 = some (a + 158) ∧ hfr w a 8 = some (a + 165) ∧ hfr w a 9 = some (a + 172) ∧ hfr w a 10 = some (a + 190) ∧ hfr w a 11 = some (a + 192) ∧ zSet w (a + 1) ∧ zSet w (a + 18) ∧ zHis w (a + 35) ∧ zRea w (a + 139) ∧ zSim w (a + 150) ∧ zTra w (a + 158) ∧ zTra w (a + 165) ∧ zTun w (a + 172) ∧ zFnd w (a + 190) ∧ zFnd w (a + 192) ∧ hfr w a 5 = some (a + 148) ∧ hk w (a + 148) = (12, 0)
theorem zBen_sh {w w' : mH} (h : mSh w w') {a : Nat} (z : zBen w a) : zBen w' a := ⟨by rw [h.1]; exact z.1, by rw [h.2.1]; exact z.2.1, by rw [h.2.1]; exact z.2.2.1, by rw [h.2.1]; exact z.2.2.2.1, by rw [h.2.1]; exact z.2.2.2.2.1, by rw [h.2.1]; exact z.2.2.2.2.2.1, by rw [h.2.1]; exact z.2.2.2.2.2.2.1, by rw [h.2.1]; exact z.2.2.2.2.2.2.2.1, by rw [h.2.1]; exact z.2.2.2.2.2.2.2.2.1, by rw [h.2.1]; exact z.2.2.2.2.2.2.2.2.2.1, by rw [h.2.1]; exact z.2.2.2.2.2.2.2.2.2.2.1, zSet_sh h z.2.2.2.2.2.2.2.2.2.2.2.1, zSet_sh h z.2.2.2.2.2.2.2.2.2.2.2.2.1, zHis_sh h z.2.2.2.2.2.2.2.2.2.2.2.2.2.1, zRea_sh h z.2.2.2.2.2.2.2.2.2.2.2.2.2.2.1, zSim_sh h z.2.2.2.2.2.2.2.2.2.2.2.2.2.2.2.1, zTra_sh h z.2.2.2.2.2.2.2.2.2.2.2.2.2.2.2.2.1, zTra_sh h z.2.2.2.2.2.2.2.2.2.2.2.2.2.2.2.2.2.1, zTun_sh h z.2.2.2.2.2.2.2.2.2.2.2.2.2.2.2.2.2.2.1, zFnd_sh h z.2.2.2.2.2.2.2.2.2.2.2.2.2.2.2.2.2.2.2.1, zFnd_sh h z.2.2.2.2.2.2.2.2.2.2.2.2.2.2.2.2.2.2.2.2.1, by rw [h.2.1]; exact z.2.2.2.2.2.2.2.2.2.2.2.2.2.2.2.2.2.2.2.2.2.1, by rw [h.1]; exact z.2.2.2.2.2.2.2.2.2.2.2.2.2.2.2.2.2.2.2.2.2.2⟩
def zRef (w : mH) (a : Nat) : Prop := hk w a = (11, 0) ∧ hfr w a 1 = some (a + 1) ∧ hfr w a 2 = some (a + 2) ∧ hfr w a 3 = some (a + 3) ∧ hfr w a 4 = some (a + 4) ∧ hfr w a 7 = some (a + 5) ∧ hfr w a 11 = some (a + 6) ∧ hfr w a 13 = some (a + 7) ∧ hfr w a 15 = some (a + 8) ∧ hfr w a 16 = some (a + 9) ∧ hfr w a 17 = some (a + 10) ∧ hfr w a 18 = some (a + 11) ∧ hfr w a 19 = some (a + 12) ∧ hfr w a 20 = some (a + 13) ∧ hfr w a 21 = some (a + 14) ∧ hfr w a 27 = some (a + 15) ∧ hfr w a 30 = some (a + 16) ∧ hfr w a 31 = some (a + 17) ∧ hfr w a 32 = some (a + 18) ∧ hfr w a 33 = some (a + 19) ∧ hfr w a 34 = some (a + 20) ∧ hfr w a 35 = some (a + 21) ∧ hk w (a + 1) = (16, 624) ∧ hk w (a + 2) = (16, 15) ∧ hk w (a + 3) = (16, 15) ∧ hk w (a + 4) = (16, 15) ∧ hk w (a + 5) = (16, 50) ∧ hk w (a + 6) = (16, 78) ∧ hk w (a + 7) = (16, 200) ∧ hk w (a + 8) = (16, 201) ∧ hk w (a + 9) = (16, 200) ∧ hk w (a + 10) = (16, 200) ∧ hk w (a + 11) = (16, 200) ∧ hk w (a + 12) = (16, 200) ∧ hk w (a + 13) = (16, 200) ∧ hk w (a + 14) = (16, 200) ∧ hk w (a + 15) = (16, 1206) ∧ hk w (a + 16) = (16, 201) ∧ hk w (a + 17) = (20, 2) ∧ hk w (a + 18) = (16, 6) ∧ hk w (a + 19) = (17, 2) ∧ hk w (a + 20) = (16, 2) ∧ hk w (a + 21) = (16, 3)
theorem zRef_sh {w w' : mH} (h : mSh w w') {a : Nat} (z : zRef w a) : zRef w' a := by
  unfold zRef at z ⊢
  rw [h.1, h.2.1]
  exact z
theorem zGrid_s2 {w w' : mH} (h : mS2 w w') {a : Nat} (z : zGrid w a) : zGrid w' a := by
  unfold zGrid at z ⊢
  rw [h.1, h.2]
  exact z
theorem zTab_s2 {w w' : mH} (h : mS2 w w') {a : Nat} (z : zTab w a) : zTab w' a := by
  unfold zTab at z ⊢
  rw [h.1, h.2]
  exact z
theorem zTrk_s2 {w w' : mH} (h : mS2 w w') {a : Nat} (z : zTrk w a) : zTrk w' a := by
  unfold zTrk at z ⊢
  rw [h.1, h.2]
  exact z
theorem zSet_s2 {w w' : mH} (h : mS2 w w') {a : Nat} (z : zSet w a) : zSet w' a := ⟨by rw [h.1]; exact z.1, by rw [h.2]; exact z.2.1, by rw [h.2]; exact z.2.2.1, by rw [h.2]; exact z.2.2.2.1, by rw [h.2]; exact z.2.2.2.2.1, by rw [h.2]; exact z.2.2.2.2.2.1, by rw [h.1]; exact z.2.2.2.2.2.2.1, by rw [h.1]; exact z.2.2.2.2.2.2.2.1, zGrid_s2 h z.2.2.2.2.2.2.2.2.1, zTab_s2 h z.2.2.2.2.2.2.2.2.2.1, zTrk_s2 h z.2.2.2.2.2.2.2.2.2.2⟩
theorem zTra_s2 {w w' : mH} (h : mS2 w w') {a : Nat} (z : zTra w a) : zTra w' a := by
  unfold zTra at z ⊢
  rw [h.1, h.2]
  exact z
theorem zSim_s2 {w w' : mH} (h : mS2 w w') {a : Nat} (z : zSim w a) : zSim w' a := ⟨by rw [h.1]; exact z.1, by rw [h.2]; exact z.2.1, by rw [h.2]; exact z.2.2.1, by rw [h.2]; exact z.2.2.2.1, by rw [h.2]; exact z.2.2.2.2.1, by rw [h.2]; exact z.2.2.2.2.2.1, by rw [h.1]; exact z.2.2.2.2.2.2.1, zTab_s2 h z.2.2.2.2.2.2.2.1, by rw [h.1]; exact z.2.2.2.2.2.2.2.2.1, by rw [h.1]; exact z.2.2.2.2.2.2.2.2.2.1, by rw [h.1]; exact z.2.2.2.2.2.2.2.2.2.2⟩
theorem zFnd_s2 {w w' : mH} (h : mS2 w w') {a : Nat} (z : zFnd w a) : zFnd w' a := by
  unfold zFnd at z ⊢
  rw [h.1, h.2]
  exact z
theorem zTun_s2 {w w' : mH} (h : mS2 w w') {a : Nat} (z : zTun w a) : zTun w' a := ⟨by rw [h.1]; exact z.1, by rw [h.2]; exact z.2.1, by rw [h.2]; exact z.2.2.1, by rw [h.2]; exact z.2.2.2.1, by rw [h.2]; exact z.2.2.2.2.1, zSim_s2 h z.2.2.2.2.2.1, zTra_s2 h z.2.2.2.2.2.2.1, by rw [h.1]; exact z.2.2.2.2.2.2.2.1, by rw [h.1]; exact z.2.2.2.2.2.2.2.2⟩
theorem zRea_s2 {w w' : mH} (h : mS2 w w') {a : Nat} (z : zRea w a) : zRea w' a := ⟨by rw [h.1]; exact z.1, by rw [h.2]; exact z.2.1, by rw [h.2]; exact z.2.2.1, by rw [h.1]; exact z.2.2.2.1, zTrk_s2 h z.2.2.2.2⟩
theorem zRef_s2 {w w' : mH} (h : mS2 w w') {a : Nat} (z : zRef w a) : zRef w' a := by
  unfold zRef at z ⊢
  rw [h.1, h.2]
  exact z
theorem mFr.sh {lo hi : Nat} {w w1 : mH} (h : mFr lo hi w w1) : mSh w w1 := h.1
theorem m_iMin (n : Nat) : iMin (nI n) (nI n) = nI n := by unfold iMin; split <;> rfl
theorem rX10_copyRow {G : mG} {w : mH} {a0 a1 n_a0 n_a1 : Nat} (h1 : hk w a0 = (16, n_a0)) (h2 : hk w a1 = (16, n_a1)) (s1 : n_a1 = n_a0) (s2 : n_a0 ≤ 70000) : mC G mX10_copyRow 1 0 0 [.ref a0, .ref a1] w (mP none (fun w' => mFr a1 (a1 + 1) w w' ∧ ∀ j, j < n_a0 → hai w' a1 j = hai w a0 j)) := by
  subst s1
  have e : (iMin (nI n_a1) (nI n_a1)).toNatClampNeg = n_a1 := by rw [m_iMin]; exact m_cl s2
  have e0 : (0 : Int32).toNatClampNeg = 0 := rfl
  refine mC_mono (fun o w' h => ?_) (qX10_copyRow h1 h2 (by rw [m_iMin]; exact m_0le s2) (by rw [e, e0]; omega) (by rw [e, e0]; omega))
  obtain ⟨rfl, rfl⟩ := h
  refine mP_of ⟨mFr_sax mFr.rf (Nat.le_refl _) (Nat.lt_succ_self _), fun j hj => ?_⟩
  show va_up (hai w) a1 _ a1 j = _
  rw [va_up_self]
  unfold va_cpy
  rw [e, e0, if_pos ⟨Nat.zero_le _, by omega⟩, Nat.zero_add, Nat.sub_zero]
/-- what the cells of a setup hold, as the row A of the reference has it (live entries) -/
def gRep (w : mH) (a : Nat) (A : Nat → Int32) : Prop := ∀ g, g < 3 → hai w (a + 1) g = A (20 + 3 * g) ∧ hai w (a + 2) g = A (20 + 3 * g + 1) ∧ hai w (a + 3) g = A (20 + 3 * g + 2)
def tRep (w : mH) (a : Nat) (A : Nat → Int32) : Prop := ∃ n, n ≤ 5 ∧ A 29 = nI n ∧ hfi w a 2 = nI n ∧ ∀ i, i < n → hai w (a + 1) i = A (30 + 2 * i) ∧ hai w (a + 2) i = A (30 + 2 * i + 1)
def kRep (w : mH) (a : Nat) (A : Nat → Int32) : Prop := ∃ n m, n ≤ 8 ∧ m ≤ 4 ∧ A 40 = nI n ∧ hfi w a 3 = nI n ∧ A 65 = nI m ∧ hfi w a 7 = nI m ∧ (∀ i, i < n → hai w (a + 1) i = A (41 + 3 * i) ∧ hai w (a + 2) i = A (41 + 3 * i + 1) ∧ hai w (a + 3) i = A (41 + 3 * i + 2)) ∧ ∀ i, i < m → hai w (a + 4) i = A (66 + 3 * i) ∧ hai w (a + 5) i = A (66 + 3 * i + 1) ∧ hai w (a + 6) i = A (66 + 3 * i + 2)
def sRep (w : mH) (a : Nat) (A : Nat → Int32) : Prop := (∀ k, k < 15 → hai w (a + 1) k = A k) ∧ (∀ k, k < 5 → hai w (a + 2) k = A (15 + k)) ∧ gRep w (a + 3) A ∧ tRep w (a + 7) A ∧ kRep w (a + 10) A
theorem gRep_fr {lo hi : Nat} {w w' : mH} {a : Nat} {A : Nat → Int32} (f : mFr lo hi w w') (h : a + 4 ≤ lo ∨ hi ≤ a) (z : gRep w a A) : gRep w' a A := by
  unfold gRep at z ⊢
  simp (disch := omega) only [f.hai, f.hfi]
  exact z
theorem tRep_fr {lo hi : Nat} {w w' : mH} {a : Nat} {A : Nat → Int32} (f : mFr lo hi w w') (h : a + 3 ≤ lo ∨ hi ≤ a) (z : tRep w a A) : tRep w' a A := by
  unfold tRep at z ⊢
  simp (disch := omega) only [f.hai, f.hfi]
  exact z
theorem kRep_fr {lo hi : Nat} {w w' : mH} {a : Nat} {A : Nat → Int32} (f : mFr lo hi w w') (h : a + 7 ≤ lo ∨ hi ≤ a) (z : kRep w a A) : kRep w' a A := by
  unfold kRep at z ⊢
  simp (disch := omega) only [f.hai, f.hfi]
  exact z
theorem sRep_fr {lo hi : Nat} {w w' : mH} {a : Nat} {A : Nat → Int32} (f : mFr lo hi w w') (h : a + 17 ≤ lo ∨ hi ≤ a) (z : sRep w a A) : sRep w' a A := by
  obtain ⟨z1, z2, z3, z4, z5⟩ := z
  refine ⟨fun k hk => ?_, fun k hk => ?_, gRep_fr f (by omega) z3, tRep_fr f (by omega) z4, kRep_fr f (by omega) z5⟩
  · rw [f.hai (by omega)]; exact z1 k hk
  · rw [f.hai (by omega)]; exact z2 k hk
theorem sRep_at {w w' : mH} {a : Nat} {A : Nat → Int32} (f : mFr a (a + 17) w w') (z1 : ∀ k, k < 15 → hai w' (a + 1) k = A k) (z2 : ∀ k, k < 5 → hai w' (a + 2) k = A (15 + k)) (z3 : gRep w' (a + 3) A) (z4 : tRep w' (a + 7) A) (z5 : kRep w' (a + 10) A) : sRep w' a A := ⟨z1, z2, z3, z4, z5⟩
set_option maxHeartbeats 4000000 in
set_option maxRecDepth 100000 in
theorem tX1_takeOver {G : mG} {w : mH} {Φ : mF} {a0 a1 a1_0 a0_0 n_a1_0 n_a0_0 a1_1 a0_1 n_a1_1 n_a0_1 a1_2 a0_2 n_a1_2 n_a0_2 : Nat} (h1 : hk w a1 = (1, 0)) (h2 : hfr w a1 0 = some a1_0) (h3 : hk w a0 = (1, 0)) (h4 : hfr w a0 0 = some a0_0) (h5 : hk w a1_0 = (16, n_a1_0)) (h6 : hk w a0_0 = (16, n_a0_0)) (s1 : n_a0_0 = n_a1_0) (s2 : n_a1_0 ≤ 70000) (h7 : hfr w a1 1 = some a1_1) (h8 : hfr w a0 1 = some a0_1) (h9 : hk w a1_1 = (16, n_a1_1)) (h10 : hk w a0_1 = (16, n_a0_1)) (s3 : ∀ w1 : mH, (mFr a0_0 (a0_0 + 1) w w1 ∧ ∀ j, j < n_a1_0 → hai w1 a0_0 j = hai w a1_0 j) → n_a0_1 = n_a1_1) (s4 : ∀ w1 : mH, (mFr a0_0 (a0_0 + 1) w w1 ∧ ∀ j, j < n_a1_0 → hai w1 a0_0 j = hai w a1_0 j) → n_a1_1 ≤ 70000) (h11 : hfr w a1 2 = some a1_2) (h12 : hfr w a0 2 = some a0_2) (h13 : hk w a1_2 = (16, n_a1_2)) (h14 : hk w a0_2 = (16, n_a0_2)) (s5 : ∀ w1 : mH, (mFr a0_0 (a0_0 + 1) w w1 ∧ ∀ j, j < n_a1_0 → hai w1 a0_0 j = hai w a1_0 j) → ∀ w2 : mH, (mFr a0_1 (a0_1 + 1) w1 w2 ∧ ∀ j, j < n_a1_1 → hai w2 a0_1 j = hai w1 a1_1 j) → n_a0_2 = n_a1_2) (s6 : ∀ w1 : mH, (mFr a0_0 (a0_0 + 1) w w1 ∧ ∀ j, j < n_a1_0 → hai w1 a0_0 j = hai w a1_0 j) → ∀ w2 : mH, (mFr a0_1 (a0_1 + 1) w1 w2 ∧ ∀ j, j < n_a1_1 → hai w2 a0_1 j = hai w1 a1_1 j) → n_a1_2 ≤ 70000) (k1 : ∀ w1 : mH, (mFr a0_0 (a0_0 + 1) w w1 ∧ ∀ j, j < n_a1_0 → hai w1 a0_0 j = hai w a1_0 j) → ∀ w2 : mH, (mFr a0_1 (a0_1 + 1) w1 w2 ∧ ∀ j, j < n_a1_1 → hai w2 a0_1 j = hai w1 a1_1 j) → ∀ w3 : mH, (mFr a0_2 (a0_2 + 1) w2 w3 ∧ ∀ j, j < n_a1_2 → hai w3 a0_2 j = hai w2 a1_2 j) → Φ (.inl none) w3) : mW G mX1_takeOver 2 0 0 0 [(0, .ref a0), (1, .ref a1)] [] w Φ := by
  refine mW_aload_n (j := 1) dX1_takeOver_0 rfl rfl ?_
  refine mW_getR dX1_takeOver_1 f_X1_9 h1 rfl h2 ?_
  refine mW_aload_n (j := 0) dX1_takeOver_4 rfl rfl ?_
  refine mW_getR dX1_takeOver_5 f_X1_9 h3 rfl h4 ?_
  refine mW_callSN (As := [.ref a1_0, .ref a0_0]) (rest := []) (kc2 := 0) (ks2 := 0) dX1_takeOver_8 l_X1_25 rfl (rX10_copyRow (w := w) (a0 := a1_0) (a1 := a0_0) h5 h6 s1 s2) (Nat.le_of_ble_eq_true rfl) (by decide) rfl rfl mP_x (mP_k (fun w1 q1 => ?_))
  refine mW_aload_n (j := 1) dX1_takeOver_11 rfl rfl ?_
  refine mW_getR dX1_takeOver_12 f_X1_15 (k_eq q1.1.1.1 h1) rfl (r_eq q1.1.1.2.1 h7) ?_
  refine mW_aload_n (j := 0) dX1_takeOver_15 rfl rfl ?_
  refine mW_getR dX1_takeOver_16 f_X1_15 (k_eq q1.1.1.1 h3) rfl (r_eq q1.1.1.2.1 h8) ?_
  refine mW_callSN (As := [.ref a1_1, .ref a0_1]) (rest := []) (kc2 := 0) (ks2 := 0) dX1_takeOver_19 l_X1_25 rfl (rX10_copyRow (w := w1) (a0 := a1_1) (a1 := a0_1) (k_eq q1.1.1.1 h9) (k_eq q1.1.1.1 h10) (s3 w1 q1) (s4 w1 q1)) (Nat.le_of_ble_eq_true rfl) (by decide) rfl rfl mP_x (mP_k (fun w2 q2 => ?_))
  refine mW_aload_n (j := 1) dX1_takeOver_22 rfl rfl ?_
  refine mW_getR dX1_takeOver_23 f_X1_18 (k_eq q2.1.1.1 (k_eq q1.1.1.1 h1)) rfl (r_eq q2.1.1.2.1 (r_eq q1.1.1.2.1 h11)) ?_
  refine mW_aload_n (j := 0) dX1_takeOver_26 rfl rfl ?_
  refine mW_getR dX1_takeOver_27 f_X1_18 (k_eq q2.1.1.1 (k_eq q1.1.1.1 h3)) rfl (r_eq q2.1.1.2.1 (r_eq q1.1.1.2.1 h12)) ?_
  refine mW_callSN (As := [.ref a1_2, .ref a0_2]) (rest := []) (kc2 := 0) (ks2 := 0) dX1_takeOver_30 l_X1_25 rfl (rX10_copyRow (w := w2) (a0 := a1_2) (a1 := a0_2) (k_eq q2.1.1.1 (k_eq q1.1.1.1 h13)) (k_eq q2.1.1.1 (k_eq q1.1.1.1 h14)) (s5 w1 q1 w2 q2) (s6 w1 q1 w2 q2)) (Nat.le_of_ble_eq_true rfl) (by decide) rfl rfl mP_x (mP_k (fun w3 q3 => ?_))
  exact mW_vret dX1_takeOver_33 rfl (k1 w1 q1 w2 q2 w3 q3)
theorem rX1_takeOver {G : mG} {w : mH} {a0 a1 : Nat} (z0 : zGrid w a0) (z1 : zGrid w a1) (s : a0 + 4 ≤ a1 ∨ a1 + 4 ≤ a0) : mC G mX1_takeOver 2 0 0 [.ref a0, .ref a1] w (mP none (fun w' => mFr a0 (a0 + 4) w w' ∧ ∀ A, gRep w a1 A → gRep w' a0 A)) := by
  refine mC_of (by decide +kernel) rfl (Nat.le_of_ble_eq_true rfl) rfl ?_
  refine tX1_takeOver (a1_0 := a1 + 1) (a0_0 := a0 + 1) (a1_1 := a1 + 2) (a0_1 := a0 + 2) (a1_2 := a1 + 3) (a0_2 := a0 + 3) z1.1 z1.2.1 z0.1 z0.2.1 z1.2.2.2.2.1 z0.2.2.2.2.1 ?_ ?_ z1.2.2.1 z0.2.2.1 z1.2.2.2.2.2.1 z0.2.2.2.2.2.1 ?_ ?_ z1.2.2.2.1 z0.2.2.2.1 z1.2.2.2.2.2.2 z0.2.2.2.2.2.2 ?_ ?_ ?_
  rotate_right
  · intro w1 q1 w2 q2 w3 q3
    refine mP_of ⟨((((mFr.rf.tr (q1.1.wide (by omega) (by omega))).tr (q2.1.wide (by omega) (by omega))).tr (q3.1.wide (by omega) (by omega))) : mFr a0 (a0 + 4) w w3), fun A h g hg => ?_⟩
    obtain ⟨e1, e2, e3⟩ := h g hg
    simp (disch := omega) only [q3.1.hai, q3.1.hfi, q2.1.hai, q2.1.hfi, q1.1.hai, q1.1.hfi, q1.2, q2.2, q3.2]
    exact ⟨e1, e2, e3⟩
  all_goals (intros; first | rfl | decide | omega)
set_option maxHeartbeats 4000000 in
set_option maxRecDepth 100000 in
theorem tX5_takeOver {G : mG} {w : mH} {Φ : mF} {a0 a1 a1_0 a0_0 n_a1_0 n_a0_0 a1_1 a0_1 n_a1_1 n_a0_1 : Nat} (h1 : hk w a1 = (5, 0)) (h2 : hfr w a1 0 = some a1_0) (h3 : hk w a0 = (5, 0)) (h4 : hfr w a0 0 = some a0_0) (h5 : hk w a1_0 = (16, n_a1_0)) (h6 : hk w a0_0 = (16, n_a0_0)) (s1 : n_a0_0 = n_a1_0) (s2 : n_a1_0 ≤ 70000) (h7 : hfr w a1 1 = some a1_1) (h8 : hfr w a0 1 = some a0_1) (h9 : hk w a1_1 = (16, n_a1_1)) (h10 : hk w a0_1 = (16, n_a0_1)) (s3 : ∀ w1 : mH, (mFr a0_0 (a0_0 + 1) w w1 ∧ ∀ j, j < n_a1_0 → hai w1 a0_0 j = hai w a1_0 j) → n_a0_1 = n_a1_1) (s4 : ∀ w1 : mH, (mFr a0_0 (a0_0 + 1) w w1 ∧ ∀ j, j < n_a1_0 → hai w1 a0_0 j = hai w a1_0 j) → n_a1_1 ≤ 70000) (k1 : ∀ w1 : mH, (mFr a0_0 (a0_0 + 1) w w1 ∧ ∀ j, j < n_a1_0 → hai w1 a0_0 j = hai w a1_0 j) → ∀ w2 : mH, (mFr a0_1 (a0_1 + 1) w1 w2 ∧ ∀ j, j < n_a1_1 → hai w2 a0_1 j = hai w1 a1_1 j) → Φ (.inl none) (sfi w2 a0 2 (hfi w2 a1 2))) : mW G mX5_takeOver 2 0 0 0 [(0, .ref a0), (1, .ref a1)] [] w Φ := by
  refine mW_aload_n (j := 1) dX5_takeOver_0 rfl rfl ?_
  refine mW_getR dX5_takeOver_1 f_X5_9 h1 rfl h2 ?_
  refine mW_aload_n (j := 0) dX5_takeOver_4 rfl rfl ?_
  refine mW_getR dX5_takeOver_5 f_X5_9 h3 rfl h4 ?_
  refine mW_callSN (As := [.ref a1_0, .ref a0_0]) (rest := []) (kc2 := 0) (ks2 := 0) dX5_takeOver_8 l_X5_38 rfl (rX10_copyRow (w := w) (a0 := a1_0) (a1 := a0_0) h5 h6 s1 s2) (Nat.le_of_ble_eq_true rfl) (by decide) rfl rfl mP_x (mP_k (fun w1 q1 => ?_))
  refine mW_aload_n (j := 1) dX5_takeOver_11 rfl rfl ?_
  refine mW_getR dX5_takeOver_12 f_X5_15 (k_eq q1.1.1.1 h1) rfl (r_eq q1.1.1.2.1 h7) ?_
  refine mW_aload_n (j := 0) dX5_takeOver_15 rfl rfl ?_
  refine mW_getR dX5_takeOver_16 f_X5_15 (k_eq q1.1.1.1 h3) rfl (r_eq q1.1.1.2.1 h8) ?_
  refine mW_callSN (As := [.ref a1_1, .ref a0_1]) (rest := []) (kc2 := 0) (ks2 := 0) dX5_takeOver_19 l_X5_38 rfl (rX10_copyRow (w := w1) (a0 := a1_1) (a1 := a0_1) (k_eq q1.1.1.1 h9) (k_eq q1.1.1.1 h10) (s3 w1 q1) (s4 w1 q1)) (Nat.le_of_ble_eq_true rfl) (by decide) rfl rfl mP_x (mP_k (fun w2 q2 => ?_))
  refine mW_aload_n (j := 0) dX5_takeOver_22 rfl rfl ?_
  refine mW_aload_n (j := 1) dX5_takeOver_23 rfl rfl ?_
  refine mW_get dX5_takeOver_24 f_X5_18 (k_eq q2.1.1.1 (k_eq q1.1.1.1 h1)) rfl ?_
  refine mW_put (ty := .int) (w2 := sfi w2 a0 2 (hfi w2 a1 2)) dX5_takeOver_27 p_X5_18 (k_eq q2.1.1.1 (k_eq q1.1.1.1 h3)) (Nat.le_of_ble_eq_true rfl) (by first | rfl | decide | (repeat' split) <;> rfl) rfl (hN_sfi _ _ _ _) (hk_sfi _ _ _ _) (mE_sfi (k_eq q2.1.1.1 (k_eq q1.1.1.1 h3)) (by decide) (ob_5_2 _ _ _)) ?_
  exact mW_vret dX5_takeOver_30 rfl (k1 w1 q1 w2 q2)
theorem rX5_takeOver {G : mG} {w : mH} {a0 a1 : Nat} (z0 : zTab w a0) (z1 : zTab w a1) (s : a0 + 3 ≤ a1 ∨ a1 + 3 ≤ a0) : mC G mX5_takeOver 2 0 0 [.ref a0, .ref a1] w (mP none (fun w' => mFr a0 (a0 + 3) w w' ∧ ∀ A, tRep w a1 A → tRep w' a0 A)) := by
  refine mC_of (by decide +kernel) rfl (Nat.le_of_ble_eq_true rfl) rfl ?_
  refine tX5_takeOver (a1_0 := a1 + 1) (a0_0 := a0 + 1) (a1_1 := a1 + 2) (a0_1 := a0 + 2) z1.1 z1.2.1 z0.1 z0.2.1 z1.2.2.2.1 z0.2.2.2.1 ?_ ?_ z1.2.2.1 z0.2.2.1 z1.2.2.2.2 z0.2.2.2.2 ?_ ?_ ?_
  rotate_right
  · intro w1 q1 w2 q2
    refine mP_of ⟨mFr_sfi (((mFr.rf.tr (q1.1.wide (by omega) (by omega))).tr (q2.1.wide (by omega) (by omega))) : mFr a0 (a0 + 3) w w2) (by omega) (by omega), fun A h => ?_⟩
    obtain ⟨n, g1, g2, g3, g4⟩ := h
    refine ⟨n, g1, g2, ?_, fun i hi => ?_⟩
    · rw [e_hfi_sfi, up2_at]
      simp (disch := omega) only [q2.1.hfi, q1.1.hfi]
      exact g3
    · rw [e_hai_sfi]
      simp (disch := omega) only [q2.1.hai, q2.1.hfi, q1.1.hai, q1.1.hfi, q1.2, q2.2]
      exact g4 i hi
  all_goals (intros; first | rfl | decide | omega)
set_option maxHeartbeats 4000000 in
set_option maxRecDepth 100000 in
theorem tX7_takeOver {G : mG} {w : mH} {Φ : mF} {a0 a1 a1_0 a0_0 n_a1_0 n_a0_0 a1_1 a0_1 n_a1_1 n_a0_1 a1_2 a0_2 n_a1_2 n_a0_2 a1_4 a0_4 n_a1_4 n_a0_4 a1_5 a0_5 n_a1_5 n_a0_5 a1_6 a0_6 n_a1_6 n_a0_6 : Nat} (h1 : hk w a1 = (7, 0)) (h2 : hfr w a1 0 = some a1_0) (h3 : hk w a0 = (7, 0)) (h4 : hfr w a0 0 = some a0_0) (h5 : hk w a1_0 = (16, n_a1_0)) (h6 : hk w a0_0 = (16, n_a0_0)) (s1 : n_a0_0 = n_a1_0) (s2 : n_a1_0 ≤ 70000) (h7 : hfr w a1 1 = some a1_1) (h8 : hfr w a0 1 = some a0_1) (h9 : hk w a1_1 = (16, n_a1_1)) (h10 : hk w a0_1 = (16, n_a0_1)) (s3 : ∀ w1 : mH, (mFr a0_0 (a0_0 + 1) w w1 ∧ ∀ j, j < n_a1_0 → hai w1 a0_0 j = hai w a1_0 j) → n_a0_1 = n_a1_1) (s4 : ∀ w1 : mH, (mFr a0_0 (a0_0 + 1) w w1 ∧ ∀ j, j < n_a1_0 → hai w1 a0_0 j = hai w a1_0 j) → n_a1_1 ≤ 70000) (h11 : hfr w a1 2 = some a1_2) (h12 : hfr w a0 2 = some a0_2) (h13 : hk w a1_2 = (16, n_a1_2)) (h14 : hk w a0_2 = (16, n_a0_2)) (s5 : ∀ w1 : mH, (mFr a0_0 (a0_0 + 1) w w1 ∧ ∀ j, j < n_a1_0 → hai w1 a0_0 j = hai w a1_0 j) → ∀ w2 : mH, (mFr a0_1 (a0_1 + 1) w1 w2 ∧ ∀ j, j < n_a1_1 → hai w2 a0_1 j = hai w1 a1_1 j) → n_a0_2 = n_a1_2) (s6 : ∀ w1 : mH, (mFr a0_0 (a0_0 + 1) w w1 ∧ ∀ j, j < n_a1_0 → hai w1 a0_0 j = hai w a1_0 j) → ∀ w2 : mH, (mFr a0_1 (a0_1 + 1) w1 w2 ∧ ∀ j, j < n_a1_1 → hai w2 a0_1 j = hai w1 a1_1 j) → n_a1_2 ≤ 70000) (h15 : hfr w a1 4 = some a1_4) (h16 : hfr w a0 4 = some a0_4) (h17 : hk w a1_4 = (16, n_a1_4)) (h18 : hk w a0_4 = (16, n_a0_4)) (s7 : ∀ w1 : mH, (mFr a0_0 (a0_0 + 1) w w1 ∧ ∀ j, j < n_a1_0 → hai w1 a0_0 j = hai w a1_0 j) → ∀ w2 : mH, (mFr a0_1 (a0_1 + 1) w1 w2 ∧ ∀ j, j < n_a1_1 → hai w2 a0_1 j = hai w1 a1_1 j) → ∀ w3 : mH, (mFr a0_2 (a0_2 + 1) w2 w3 ∧ ∀ j, j < n_a1_2 → hai w3 a0_2 j = hai w2 a1_2 j) → n_a0_4 = n_a1_4) (s8 : ∀ w1 : mH, (mFr a0_0 (a0_0 + 1) w w1 ∧ ∀ j, j < n_a1_0 → hai w1 a0_0 j = hai w a1_0 j) → ∀ w2 : mH, (mFr a0_1 (a0_1 + 1) w1 w2 ∧ ∀ j, j < n_a1_1 → hai w2 a0_1 j = hai w1 a1_1 j) → ∀ w3 : mH, (mFr a0_2 (a0_2 + 1) w2 w3 ∧ ∀ j, j < n_a1_2 → hai w3 a0_2 j = hai w2 a1_2 j) → n_a1_4 ≤ 70000) (h19 : hfr w a1 5 = some a1_5) (h20 : hfr w a0 5 = some a0_5) (h21 : hk w a1_5 = (16, n_a1_5)) (h22 : hk w a0_5 = (16, n_a0_5)) (s9 : ∀ w1 : mH, (mFr a0_0 (a0_0 + 1) w w1 ∧ ∀ j, j < n_a1_0 → hai w1 a0_0 j = hai w a1_0 j) → ∀ w2 : mH, (mFr a0_1 (a0_1 + 1) w1 w2 ∧ ∀ j, j < n_a1_1 → hai w2 a0_1 j = hai w1 a1_1 j) → ∀ w3 : mH, (mFr a0_2 (a0_2 + 1) w2 w3 ∧ ∀ j, j < n_a1_2 → hai w3 a0_2 j = hai w2 a1_2 j) → ∀ w4 : mH, (mFr a0_4 (a0_4 + 1) (sfi w3 a0 3 (hfi w3 a1 3)) w4 ∧ ∀ j, j < n_a1_4 → hai w4 a0_4 j = hai (sfi w3 a0 3 (hfi w3 a1 3)) a1_4 j) → n_a0_5 = n_a1_5) (s10 : ∀ w1 : mH, (mFr a0_0 (a0_0 + 1) w w1 ∧ ∀ j, j < n_a1_0 → hai w1 a0_0 j = hai w a1_0 j) → ∀ w2 : mH, (mFr a0_1 (a0_1 + 1) w1 w2 ∧ ∀ j, j < n_a1_1 → hai w2 a0_1 j = hai w1 a1_1 j) → ∀ w3 : mH, (mFr a0_2 (a0_2 + 1) w2 w3 ∧ ∀ j, j < n_a1_2 → hai w3 a0_2 j = hai w2 a1_2 j) → ∀ w4 : mH, (mFr a0_4 (a0_4 + 1) (sfi w3 a0 3 (hfi w3 a1 3)) w4 ∧ ∀ j, j < n_a1_4 → hai w4 a0_4 j = hai (sfi w3 a0 3 (hfi w3 a1 3)) a1_4 j) → n_a1_5 ≤ 70000) (h23 : hfr w a1 6 = some a1_6) (h24 : hfr w a0 6 = some a0_6) (h25 : hk w a1_6 = (16, n_a1_6)) (h26 : hk w a0_6 = (16, n_a0_6)) (s11 : ∀ w1 : mH, (mFr a0_0 (a0_0 + 1) w w1 ∧ ∀ j, j < n_a1_0 → hai w1 a0_0 j = hai w a1_0 j) → ∀ w2 : mH, (mFr a0_1 (a0_1 + 1) w1 w2 ∧ ∀ j, j < n_a1_1 → hai w2 a0_1 j = hai w1 a1_1 j) → ∀ w3 : mH, (mFr a0_2 (a0_2 + 1) w2 w3 ∧ ∀ j, j < n_a1_2 → hai w3 a0_2 j = hai w2 a1_2 j) → ∀ w4 : mH, (mFr a0_4 (a0_4 + 1) (sfi w3 a0 3 (hfi w3 a1 3)) w4 ∧ ∀ j, j < n_a1_4 → hai w4 a0_4 j = hai (sfi w3 a0 3 (hfi w3 a1 3)) a1_4 j) → ∀ w5 : mH, (mFr a0_5 (a0_5 + 1) w4 w5 ∧ ∀ j, j < n_a1_5 → hai w5 a0_5 j = hai w4 a1_5 j) → n_a0_6 = n_a1_6) (s12 : ∀ w1 : mH, (mFr a0_0 (a0_0 + 1) w w1 ∧ ∀ j, j < n_a1_0 → hai w1 a0_0 j = hai w a1_0 j) → ∀ w2 : mH, (mFr a0_1 (a0_1 + 1) w1 w2 ∧ ∀ j, j < n_a1_1 → hai w2 a0_1 j = hai w1 a1_1 j) → ∀ w3 : mH, (mFr a0_2 (a0_2 + 1) w2 w3 ∧ ∀ j, j < n_a1_2 → hai w3 a0_2 j = hai w2 a1_2 j) → ∀ w4 : mH, (mFr a0_4 (a0_4 + 1) (sfi w3 a0 3 (hfi w3 a1 3)) w4 ∧ ∀ j, j < n_a1_4 → hai w4 a0_4 j = hai (sfi w3 a0 3 (hfi w3 a1 3)) a1_4 j) → ∀ w5 : mH, (mFr a0_5 (a0_5 + 1) w4 w5 ∧ ∀ j, j < n_a1_5 → hai w5 a0_5 j = hai w4 a1_5 j) → n_a1_6 ≤ 70000) (k1 : ∀ w1 : mH, (mFr a0_0 (a0_0 + 1) w w1 ∧ ∀ j, j < n_a1_0 → hai w1 a0_0 j = hai w a1_0 j) → ∀ w2 : mH, (mFr a0_1 (a0_1 + 1) w1 w2 ∧ ∀ j, j < n_a1_1 → hai w2 a0_1 j = hai w1 a1_1 j) → ∀ w3 : mH, (mFr a0_2 (a0_2 + 1) w2 w3 ∧ ∀ j, j < n_a1_2 → hai w3 a0_2 j = hai w2 a1_2 j) → ∀ w4 : mH, (mFr a0_4 (a0_4 + 1) (sfi w3 a0 3 (hfi w3 a1 3)) w4 ∧ ∀ j, j < n_a1_4 → hai w4 a0_4 j = hai (sfi w3 a0 3 (hfi w3 a1 3)) a1_4 j) → ∀ w5 : mH, (mFr a0_5 (a0_5 + 1) w4 w5 ∧ ∀ j, j < n_a1_5 → hai w5 a0_5 j = hai w4 a1_5 j) → ∀ w6 : mH, (mFr a0_6 (a0_6 + 1) w5 w6 ∧ ∀ j, j < n_a1_6 → hai w6 a0_6 j = hai w5 a1_6 j) → Φ (.inl none) (sfi w6 a0 7 (hfi w6 a1 7))) : mW G mX7_takeOver 2 0 0 0 [(0, .ref a0), (1, .ref a1)] [] w Φ := by
  refine mW_aload_n (j := 1) dX7_takeOver_0 rfl rfl ?_
  refine mW_getR dX7_takeOver_1 f_X7_9 h1 rfl h2 ?_
  refine mW_aload_n (j := 0) dX7_takeOver_4 rfl rfl ?_
  refine mW_getR dX7_takeOver_5 f_X7_9 h3 rfl h4 ?_
  refine mW_callSN (As := [.ref a1_0, .ref a0_0]) (rest := []) (kc2 := 0) (ks2 := 0) dX7_takeOver_8 l_X7_62 rfl (rX10_copyRow (w := w) (a0 := a1_0) (a1 := a0_0) h5 h6 s1 s2) (Nat.le_of_ble_eq_true rfl) (by decide) rfl rfl mP_x (mP_k (fun w1 q1 => ?_))
  refine mW_aload_n (j := 1) dX7_takeOver_11 rfl rfl ?_
  refine mW_getR dX7_takeOver_12 f_X7_15 (k_eq q1.1.1.1 h1) rfl (r_eq q1.1.1.2.1 h7) ?_
  refine mW_aload_n (j := 0) dX7_takeOver_15 rfl rfl ?_
  refine mW_getR dX7_takeOver_16 f_X7_15 (k_eq q1.1.1.1 h3) rfl (r_eq q1.1.1.2.1 h8) ?_
  refine mW_callSN (As := [.ref a1_1, .ref a0_1]) (rest := []) (kc2 := 0) (ks2 := 0) dX7_takeOver_19 l_X7_62 rfl (rX10_copyRow (w := w1) (a0 := a1_1) (a1 := a0_1) (k_eq q1.1.1.1 h9) (k_eq q1.1.1.1 h10) (s3 w1 q1) (s4 w1 q1)) (Nat.le_of_ble_eq_true rfl) (by decide) rfl rfl mP_x (mP_k (fun w2 q2 => ?_))
  refine mW_aload_n (j := 1) dX7_takeOver_22 rfl rfl ?_
  refine mW_getR dX7_takeOver_23 f_X7_18 (k_eq q2.1.1.1 (k_eq q1.1.1.1 h1)) rfl (r_eq q2.1.1.2.1 (r_eq q1.1.1.2.1 h11)) ?_
  refine mW_aload_n (j := 0) dX7_takeOver_26 rfl rfl ?_
  refine mW_getR dX7_takeOver_27 f_X7_18 (k_eq q2.1.1.1 (k_eq q1.1.1.1 h3)) rfl (r_eq q2.1.1.2.1 (r_eq q1.1.1.2.1 h12)) ?_
  refine mW_callSN (As := [.ref a1_2, .ref a0_2]) (rest := []) (kc2 := 0) (ks2 := 0) dX7_takeOver_30 l_X7_62 rfl (rX10_copyRow (w := w2) (a0 := a1_2) (a1 := a0_2) (k_eq q2.1.1.1 (k_eq q1.1.1.1 h13)) (k_eq q2.1.1.1 (k_eq q1.1.1.1 h14)) (s5 w1 q1 w2 q2) (s6 w1 q1 w2 q2)) (Nat.le_of_ble_eq_true rfl) (by decide) rfl rfl mP_x (mP_k (fun w3 q3 => ?_))
  refine mW_aload_n (j := 0) dX7_takeOver_33 rfl rfl ?_
  refine mW_aload_n (j := 1) dX7_takeOver_34 rfl rfl ?_
  refine mW_get dX7_takeOver_35 f_X7_21 (k_eq q3.1.1.1 (k_eq q2.1.1.1 (k_eq q1.1.1.1 h1))) rfl ?_
  refine mW_put (ty := .int) (w2 := sfi w3 a0 3 (hfi w3 a1 3)) dX7_takeOver_38 p_X7_21 (k_eq q3.1.1.1 (k_eq q2.1.1.1 (k_eq q1.1.1.1 h3))) (Nat.le_of_ble_eq_true rfl) (by first | rfl | decide | (repeat' split) <;> rfl) rfl (hN_sfi _ _ _ _) (hk_sfi _ _ _ _) (mE_sfi (k_eq q3.1.1.1 (k_eq q2.1.1.1 (k_eq q1.1.1.1 h3))) (by decide) (ob_7_3 _ _ _)) ?_
  refine mW_aload_n (j := 1) dX7_takeOver_41 rfl rfl ?_
  refine mW_getR dX7_takeOver_42 f_X7_25 (k_sfi (k_eq q3.1.1.1 (k_eq q2.1.1.1 (k_eq q1.1.1.1 h1)))) rfl (r_sfi (r_eq q3.1.1.2.1 (r_eq q2.1.1.2.1 (r_eq q1.1.1.2.1 h15)))) ?_
  refine mW_aload_n (j := 0) dX7_takeOver_45 rfl rfl ?_
  refine mW_getR dX7_takeOver_46 f_X7_25 (k_sfi (k_eq q3.1.1.1 (k_eq q2.1.1.1 (k_eq q1.1.1.1 h3)))) rfl (r_sfi (r_eq q3.1.1.2.1 (r_eq q2.1.1.2.1 (r_eq q1.1.1.2.1 h16)))) ?_
  refine mW_callSN (As := [.ref a1_4, .ref a0_4]) (rest := []) (kc2 := 0) (ks2 := 0) dX7_takeOver_49 l_X7_62 rfl (rX10_copyRow (w := sfi w3 a0 3 (hfi w3 a1 3)) (a0 := a1_4) (a1 := a0_4) (k_sfi (k_eq q3.1.1.1 (k_eq q2.1.1.1 (k_eq q1.1.1.1 h17)))) (k_sfi (k_eq q3.1.1.1 (k_eq q2.1.1.1 (k_eq q1.1.1.1 h18)))) (s7 w1 q1 w2 q2 w3 q3) (s8 w1 q1 w2 q2 w3 q3)) (Nat.le_of_ble_eq_true rfl) (by decide) rfl rfl mP_x (mP_k (fun w4 q4 => ?_))
  refine mW_aload_n (j := 1) dX7_takeOver_52 rfl rfl ?_
  refine mW_getR dX7_takeOver_53 f_X7_28 (k_eq q4.1.1.1 (k_sfi (k_eq q3.1.1.1 (k_eq q2.1.1.1 (k_eq q1.1.1.1 h1))))) rfl (r_eq q4.1.1.2.1 (r_sfi (r_eq q3.1.1.2.1 (r_eq q2.1.1.2.1 (r_eq q1.1.1.2.1 h19))))) ?_
  refine mW_aload_n (j := 0) dX7_takeOver_56 rfl rfl ?_
  refine mW_getR dX7_takeOver_57 f_X7_28 (k_eq q4.1.1.1 (k_sfi (k_eq q3.1.1.1 (k_eq q2.1.1.1 (k_eq q1.1.1.1 h3))))) rfl (r_eq q4.1.1.2.1 (r_sfi (r_eq q3.1.1.2.1 (r_eq q2.1.1.2.1 (r_eq q1.1.1.2.1 h20))))) ?_
  refine mW_callSN (As := [.ref a1_5, .ref a0_5]) (rest := []) (kc2 := 0) (ks2 := 0) dX7_takeOver_60 l_X7_62 rfl (rX10_copyRow (w := w4) (a0 := a1_5) (a1 := a0_5) (k_eq q4.1.1.1 (k_sfi (k_eq q3.1.1.1 (k_eq q2.1.1.1 (k_eq q1.1.1.1 h21))))) (k_eq q4.1.1.1 (k_sfi (k_eq q3.1.1.1 (k_eq q2.1.1.1 (k_eq q1.1.1.1 h22))))) (s9 w1 q1 w2 q2 w3 q3 w4 q4) (s10 w1 q1 w2 q2 w3 q3 w4 q4)) (Nat.le_of_ble_eq_true rfl) (by decide) rfl rfl mP_x (mP_k (fun w5 q5 => ?_))
  refine mW_aload_n (j := 1) dX7_takeOver_63 rfl rfl ?_
  refine mW_getR dX7_takeOver_64 f_X7_31 (k_eq q5.1.1.1 (k_eq q4.1.1.1 (k_sfi (k_eq q3.1.1.1 (k_eq q2.1.1.1 (k_eq q1.1.1.1 h1)))))) rfl (r_eq q5.1.1.2.1 (r_eq q4.1.1.2.1 (r_sfi (r_eq q3.1.1.2.1 (r_eq q2.1.1.2.1 (r_eq q1.1.1.2.1 h23)))))) ?_
  refine mW_aload_n (j := 0) dX7_takeOver_67 rfl rfl ?_
  refine mW_getR dX7_takeOver_68 f_X7_31 (k_eq q5.1.1.1 (k_eq q4.1.1.1 (k_sfi (k_eq q3.1.1.1 (k_eq q2.1.1.1 (k_eq q1.1.1.1 h3)))))) rfl (r_eq q5.1.1.2.1 (r_eq q4.1.1.2.1 (r_sfi (r_eq q3.1.1.2.1 (r_eq q2.1.1.2.1 (r_eq q1.1.1.2.1 h24)))))) ?_
  refine mW_callSN (As := [.ref a1_6, .ref a0_6]) (rest := []) (kc2 := 0) (ks2 := 0) dX7_takeOver_71 l_X7_62 rfl (rX10_copyRow (w := w5) (a0 := a1_6) (a1 := a0_6) (k_eq q5.1.1.1 (k_eq q4.1.1.1 (k_sfi (k_eq q3.1.1.1 (k_eq q2.1.1.1 (k_eq q1.1.1.1 h25)))))) (k_eq q5.1.1.1 (k_eq q4.1.1.1 (k_sfi (k_eq q3.1.1.1 (k_eq q2.1.1.1 (k_eq q1.1.1.1 h26)))))) (s11 w1 q1 w2 q2 w3 q3 w4 q4 w5 q5) (s12 w1 q1 w2 q2 w3 q3 w4 q4 w5 q5)) (Nat.le_of_ble_eq_true rfl) (by decide) rfl rfl mP_x (mP_k (fun w6 q6 => ?_))
  refine mW_aload_n (j := 0) dX7_takeOver_74 rfl rfl ?_
  refine mW_aload_n (j := 1) dX7_takeOver_75 rfl rfl ?_
  refine mW_get dX7_takeOver_76 f_X7_34 (k_eq q6.1.1.1 (k_eq q5.1.1.1 (k_eq q4.1.1.1 (k_sfi (k_eq q3.1.1.1 (k_eq q2.1.1.1 (k_eq q1.1.1.1 h1))))))) rfl ?_
  refine mW_put (ty := .int) (w2 := sfi w6 a0 7 (hfi w6 a1 7)) dX7_takeOver_79 p_X7_34 (k_eq q6.1.1.1 (k_eq q5.1.1.1 (k_eq q4.1.1.1 (k_sfi (k_eq q3.1.1.1 (k_eq q2.1.1.1 (k_eq q1.1.1.1 h3))))))) (Nat.le_of_ble_eq_true rfl) (by first | rfl | decide | (repeat' split) <;> rfl) rfl (hN_sfi _ _ _ _) (hk_sfi _ _ _ _) (mE_sfi (k_eq q6.1.1.1 (k_eq q5.1.1.1 (k_eq q4.1.1.1 (k_sfi (k_eq q3.1.1.1 (k_eq q2.1.1.1 (k_eq q1.1.1.1 h3))))))) (by decide) (ob_7_7 _ _ _)) ?_
  exact mW_vret dX7_takeOver_82 rfl (k1 w1 q1 w2 q2 w3 q3 w4 q4 w5 q5 w6 q6)
theorem rX7_takeOver {G : mG} {w : mH} {a0 a1 : Nat} (z0 : zTrk w a0) (z1 : zTrk w a1) (s : a0 + 7 ≤ a1 ∨ a1 + 7 ≤ a0) : mC G mX7_takeOver 2 0 0 [.ref a0, .ref a1] w (mP none (fun w' => mFr a0 (a0 + 7) w w' ∧ ∀ A, kRep w a1 A → kRep w' a0 A)) := by
  refine mC_of (by decide +kernel) rfl (Nat.le_of_ble_eq_true rfl) rfl ?_
  refine tX7_takeOver (a1_0 := a1 + 1) (a0_0 := a0 + 1) (a1_1 := a1 + 2) (a0_1 := a0 + 2) (a1_2 := a1 + 3) (a0_2 := a0 + 3) (a1_4 := a1 + 4) (a0_4 := a0 + 4) (a1_5 := a1 + 5) (a0_5 := a0 + 5) (a1_6 := a1 + 6) (a0_6 := a0 + 6) z1.1 z1.2.1 z0.1 z0.2.1 z1.2.2.2.2.2.2.2.1 z0.2.2.2.2.2.2.2.1 ?_ ?_ z1.2.2.1 z0.2.2.1 z1.2.2.2.2.2.2.2.2.1 z0.2.2.2.2.2.2.2.2.1 ?_ ?_ z1.2.2.2.1 z0.2.2.2.1 z1.2.2.2.2.2.2.2.2.2.1 z0.2.2.2.2.2.2.2.2.2.1 ?_ ?_ z1.2.2.2.2.1 z0.2.2.2.2.1 z1.2.2.2.2.2.2.2.2.2.2.1 z0.2.2.2.2.2.2.2.2.2.2.1 ?_ ?_ z1.2.2.2.2.2.1 z0.2.2.2.2.2.1 z1.2.2.2.2.2.2.2.2.2.2.2.1 z0.2.2.2.2.2.2.2.2.2.2.2.1 ?_ ?_ z1.2.2.2.2.2.2.1 z0.2.2.2.2.2.2.1 z1.2.2.2.2.2.2.2.2.2.2.2.2 z0.2.2.2.2.2.2.2.2.2.2.2.2 ?_ ?_ ?_
  rotate_right
  · intro w1 q1 w2 q2 w3 q3 w4 q4 w5 q5 w6 q6
    have F : mFr a0 (a0 + 7) w w3 := (((mFr.rf.tr (q1.1.wide (by omega) (by omega))).tr (q2.1.wide (by omega) (by omega))).tr (q3.1.wide (by omega) (by omega)))
    have F2 := mFr_sfi (k := 3) (v := hfi w3 a1 3) F (Nat.le_refl a0) (by omega)
    have F3 : mFr a0 (a0 + 7) w w6 := ((F2.tr (q4.1.wide (by omega) (by omega))).tr (q5.1.wide (by omega) (by omega))).tr (q6.1.wide (by omega) (by omega))
    refine mP_of ⟨mFr_sfi F3 (Nat.le_refl a0) (by omega), fun A h => ?_⟩
    obtain ⟨n, m, g1, g2, g3, g4, g5, g6, g7, g8⟩ := h
    refine ⟨n, m, g1, g2, g3, ?_, g5, ?_, fun i hi => ?_, fun i hi => ?_⟩
    · rw [e_hfi_sfi, up2_k _ _ _ (by decide), q6.1.hfi (by omega), q5.1.hfi (by omega), q4.1.hfi (by omega), e_hfi_sfi, up2_at, F.hfi (by omega)]
      exact g4
    · rw [e_hfi_sfi, up2_at, F3.hfi (by omega)]
      exact g6
    · rw [e_hai_sfi]
      simp (disch := omega) only [q6.1.hai, q5.1.hai, q4.1.hai, e_hai_sfi, q3.1.hai, q2.1.hai, q1.1.hai, q1.2, q2.2, q3.2]
      exact g7 i hi
    · rw [e_hai_sfi]
      simp (disch := omega) only [q6.1.hai, q5.1.hai, q4.1.hai, e_hai_sfi, q3.1.hai, q2.1.hai, q1.1.hai, q4.2, q5.2, q6.2]
      exact g8 i hi
  all_goals (intros; first | rfl | decide | omega)
abbrev mX3_takeOver : mM := (yX3_takeOver, cX3_takeOver, 2, none, [])
theorem u201 : (Cond.fieldLink "LineFollowerBench$Setup" 18 "LineFollowerBench$Setup" "settings" "[I" : Cond) ∈ mTs := mTs_in 201 (by decide +kernel) (by decide +kernel)
theorem in_X3 : ∀ w ∈ u_ws RX3 TX3 5, w ∈ mTs := fun w h => mTs_of (L := u_ws RX3 TX3 5) (goodIn_r _ [217, 219, 221, 223, 225] (by decide +kernel) (by decide +kernel)) (by decide +kernel) w h
theorem f_X3_18 : mFld "LineFollowerBench$Setup" 18 3 0 := ⟨RX3, TX3, 5, "LineFollowerBench$Setup", rfl, by decide, in_X3, u201, Or.inl rfl, by decide⟩
theorem v695 : (Cond.methodLinkNest "LineFollowerBench$Setup" 47 ⟨"LineFollowerBench", "copyRow", "([I[I)V"⟩ "LineFollowerBench" : Cond) ∈ lw_tbl := List.mem_of_getElem? (i := 695) (by decide +kernel)
theorem l_X3_47 : mLinkSN "LineFollowerBench$Setup" 47 2 mX10_copyRow "LineFollowerBench" := ⟨⟨by decide, by decide, by decide +kernel⟩, co_X10_copyRow, v695, u497⟩
theorem u205 : (Cond.fieldLink "LineFollowerBench$Setup" 23 "LineFollowerBench$Setup" "weights" "[I" : Cond) ∈ mTs := mTs_in 205 (by decide +kernel) (by decide +kernel)
theorem f_X3_23 : mFld "LineFollowerBench$Setup" 23 3 1 := ⟨RX3, TX3, 5, "LineFollowerBench$Setup", rfl, by decide, in_X3, u205, Or.inl rfl, by decide⟩
theorem u208 : (Cond.fieldLink "LineFollowerBench$Setup" 29 "LineFollowerBench$Setup" "grid" "LLineFollowerBench$Grid;" : Cond) ∈ mTs := mTs_in 208 (by decide +kernel) (by decide +kernel)
theorem f_X3_29 : mFld "LineFollowerBench$Setup" 29 3 2 := ⟨RX3, TX3, 5, "LineFollowerBench$Setup", rfl, by decide, in_X3, u208, Or.inl rfl, by decide⟩
theorem u699 : (Cond.code ⟨"LineFollowerBench$Grid", "takeOver", "(LLineFollowerBench$Grid;)V"⟩ prog_3_method_4_code 2 (none : Option ClassFile.FieldType) : Cond) ∈ mTs := mTs_in 699 (by decide +kernel) (by decide +kernel)
theorem u72 : (Cond.initialized "LineFollowerBench$Grid" : Cond) ∈ mTs := mTs_in 72 (by decide +kernel) (by decide +kernel)
theorem co_X1_takeOver : mCode mX1_takeOver := ⟨u699, u72, by decide⟩
theorem u696 : (Cond.methodLink "LineFollowerBench$Setup" 51 ⟨"LineFollowerBench$Grid", "takeOver", "(LLineFollowerBench$Grid;)V"⟩ : Cond) ∈ mTs := mTs_in 696 (by decide +kernel) (by decide +kernel)
theorem u697 : (Cond.instanceMethod ⟨"LineFollowerBench$Grid", "takeOver", "(LLineFollowerBench$Grid;)V"⟩ : Cond) ∈ mTs := mTs_in 697 (by decide +kernel) (by decide +kernel)
theorem u698 : (Cond.selects "LineFollowerBench$Grid" ⟨"LineFollowerBench$Grid", "takeOver", "(LLineFollowerBench$Grid;)V"⟩ ⟨"LineFollowerBench$Grid", "takeOver", "(LLineFollowerBench$Grid;)V"⟩ : Cond) ∈ mTs := mTs_in 698 (by decide +kernel) (by decide +kernel)
theorem l_X3_51 : mLinkV "LineFollowerBench$Setup" 51 1 mX1_takeOver := ⟨⟨by decide, by decide, by decide +kernel⟩, co_X1_takeOver, u696, u697, u698⟩
theorem u211 : (Cond.fieldLink "LineFollowerBench$Setup" 36 "LineFollowerBench$Setup" "table" "LLineFollowerBench$Table;" : Cond) ∈ mTs := mTs_in 211 (by decide +kernel) (by decide +kernel)
theorem f_X3_36 : mFld "LineFollowerBench$Setup" 36 3 3 := ⟨RX3, TX3, 5, "LineFollowerBench$Setup", rfl, by decide, in_X3, u211, Or.inl rfl, by decide⟩
theorem u508 : (Cond.code ⟨"LineFollowerBench$Table", "takeOver", "(LLineFollowerBench$Table;)V"⟩ prog_7_method_10_code 2 (none : Option ClassFile.FieldType) : Cond) ∈ mTs := mTs_in 508 (by decide +kernel) (by decide +kernel)
theorem co_X5_takeOver : mCode mX5_takeOver := ⟨u508, u73, by decide⟩
theorem u701 : (Cond.methodLink "LineFollowerBench$Setup" 55 ⟨"LineFollowerBench$Table", "takeOver", "(LLineFollowerBench$Table;)V"⟩ : Cond) ∈ mTs := mTs_in 701 (by decide +kernel) (by decide +kernel)
theorem u506 : (Cond.instanceMethod ⟨"LineFollowerBench$Table", "takeOver", "(LLineFollowerBench$Table;)V"⟩ : Cond) ∈ mTs := mTs_in 506 (by decide +kernel) (by decide +kernel)
theorem u507 : (Cond.selects "LineFollowerBench$Table" ⟨"LineFollowerBench$Table", "takeOver", "(LLineFollowerBench$Table;)V"⟩ ⟨"LineFollowerBench$Table", "takeOver", "(LLineFollowerBench$Table;)V"⟩ : Cond) ∈ mTs := mTs_in 507 (by decide +kernel) (by decide +kernel)
theorem l_X3_55 : mLinkV "LineFollowerBench$Setup" 55 1 mX5_takeOver := ⟨⟨by decide, by decide, by decide +kernel⟩, co_X5_takeOver, u701, u506, u507⟩
theorem u214 : (Cond.fieldLink "LineFollowerBench$Setup" 43 "LineFollowerBench$Setup" "track" "LLineFollowerBench$Track;" : Cond) ∈ mTs := mTs_in 214 (by decide +kernel) (by decide +kernel)
theorem f_X3_43 : mFld "LineFollowerBench$Setup" 43 3 4 := ⟨RX3, TX3, 5, "LineFollowerBench$Setup", rfl, by decide, in_X3, u214, Or.inl rfl, by decide⟩
theorem u705 : (Cond.code ⟨"LineFollowerBench$Track", "takeOver", "(LLineFollowerBench$Track;)V"⟩ prog_9_method_12_code 2 (none : Option ClassFile.FieldType) : Cond) ∈ mTs := mTs_in 705 (by decide +kernel) (by decide +kernel)
theorem co_X7_takeOver : mCode mX7_takeOver := ⟨u705, u74, by decide⟩
theorem u702 : (Cond.methodLink "LineFollowerBench$Setup" 58 ⟨"LineFollowerBench$Track", "takeOver", "(LLineFollowerBench$Track;)V"⟩ : Cond) ∈ mTs := mTs_in 702 (by decide +kernel) (by decide +kernel)
theorem u703 : (Cond.instanceMethod ⟨"LineFollowerBench$Track", "takeOver", "(LLineFollowerBench$Track;)V"⟩ : Cond) ∈ mTs := mTs_in 703 (by decide +kernel) (by decide +kernel)
theorem u704 : (Cond.selects "LineFollowerBench$Track" ⟨"LineFollowerBench$Track", "takeOver", "(LLineFollowerBench$Track;)V"⟩ ⟨"LineFollowerBench$Track", "takeOver", "(LLineFollowerBench$Track;)V"⟩ : Cond) ∈ mTs := mTs_in 704 (by decide +kernel) (by decide +kernel)
theorem l_X3_58 : mLinkV "LineFollowerBench$Setup" 58 1 mX7_takeOver := ⟨⟨by decide, by decide, by decide +kernel⟩, co_X7_takeOver, u702, u703, u704⟩
set_option maxHeartbeats 4000000 in
set_option maxRecDepth 100000 in
theorem tX3_takeOver {G : mG} {w : mH} {Φ : mF} {a0 a1 a1_0 a0_0 n_a1_0 n_a0_0 a1_1 a0_1 n_a1_1 n_a0_1 a0_2 a1_2 a0_3 a1_3 a0_4 a1_4 : Nat} (h1 : hk w a1 = (3, 0)) (h2 : hfr w a1 0 = some a1_0) (h3 : hk w a0 = (3, 0)) (h4 : hfr w a0 0 = some a0_0) (h5 : hk w a1_0 = (16, n_a1_0)) (h6 : hk w a0_0 = (16, n_a0_0)) (s1 : n_a0_0 = n_a1_0) (s2 : n_a1_0 ≤ 70000) (h7 : hfr w a1 1 = some a1_1) (h8 : hfr w a0 1 = some a0_1) (h9 : hk w a1_1 = (16, n_a1_1)) (h10 : hk w a0_1 = (16, n_a0_1)) (s3 : ∀ w1 : mH, (mFr a0_0 (a0_0 + 1) w w1 ∧ ∀ j, j < n_a1_0 → hai w1 a0_0 j = hai w a1_0 j) → n_a0_1 = n_a1_1) (s4 : ∀ w1 : mH, (mFr a0_0 (a0_0 + 1) w w1 ∧ ∀ j, j < n_a1_0 → hai w1 a0_0 j = hai w a1_0 j) → n_a1_1 ≤ 70000) (h11 : hfr w a0 2 = some a0_2) (h12 : hfr w a1 2 = some a1_2) (h13 : hk w a0_2 = (1, 0)) (h14 : zGrid w a0_2) (h15 : zGrid w a1_2) (s5 : ∀ w1 : mH, (mFr a0_0 (a0_0 + 1) w w1 ∧ ∀ j, j < n_a1_0 → hai w1 a0_0 j = hai w a1_0 j) → ∀ w2 : mH, (mFr a0_1 (a0_1 + 1) w1 w2 ∧ ∀ j, j < n_a1_1 → hai w2 a0_1 j = hai w1 a1_1 j) → a0_2 + 4 ≤ a1_2 ∨ a1_2 + 4 ≤ a0_2) (h16 : hfr w a0 3 = some a0_3) (h17 : hfr w a1 3 = some a1_3) (h18 : hk w a0_3 = (5, 0)) (h19 : zTab w a0_3) (h20 : zTab w a1_3) (s6 : ∀ w1 : mH, (mFr a0_0 (a0_0 + 1) w w1 ∧ ∀ j, j < n_a1_0 → hai w1 a0_0 j = hai w a1_0 j) → ∀ w2 : mH, (mFr a0_1 (a0_1 + 1) w1 w2 ∧ ∀ j, j < n_a1_1 → hai w2 a0_1 j = hai w1 a1_1 j) → ∀ w3 : mH, (mFr a0_2 (a0_2 + 4) w2 w3 ∧ ∀ A, gRep w2 a1_2 A → gRep w3 a0_2 A) → a0_3 + 3 ≤ a1_3 ∨ a1_3 + 3 ≤ a0_3) (h21 : hfr w a0 4 = some a0_4) (h22 : hfr w a1 4 = some a1_4) (h23 : hk w a0_4 = (7, 0)) (h24 : zTrk w a0_4) (h25 : zTrk w a1_4) (s7 : ∀ w1 : mH, (mFr a0_0 (a0_0 + 1) w w1 ∧ ∀ j, j < n_a1_0 → hai w1 a0_0 j = hai w a1_0 j) → ∀ w2 : mH, (mFr a0_1 (a0_1 + 1) w1 w2 ∧ ∀ j, j < n_a1_1 → hai w2 a0_1 j = hai w1 a1_1 j) → ∀ w3 : mH, (mFr a0_2 (a0_2 + 4) w2 w3 ∧ ∀ A, gRep w2 a1_2 A → gRep w3 a0_2 A) → ∀ w4 : mH, (mFr a0_3 (a0_3 + 3) w3 w4 ∧ ∀ A, tRep w3 a1_3 A → tRep w4 a0_3 A) → a0_4 + 7 ≤ a1_4 ∨ a1_4 + 7 ≤ a0_4) (k1 : ∀ w1 : mH, (mFr a0_0 (a0_0 + 1) w w1 ∧ ∀ j, j < n_a1_0 → hai w1 a0_0 j = hai w a1_0 j) → ∀ w2 : mH, (mFr a0_1 (a0_1 + 1) w1 w2 ∧ ∀ j, j < n_a1_1 → hai w2 a0_1 j = hai w1 a1_1 j) → ∀ w3 : mH, (mFr a0_2 (a0_2 + 4) w2 w3 ∧ ∀ A, gRep w2 a1_2 A → gRep w3 a0_2 A) → ∀ w4 : mH, (mFr a0_3 (a0_3 + 3) w3 w4 ∧ ∀ A, tRep w3 a1_3 A → tRep w4 a0_3 A) → ∀ w5 : mH, (mFr a0_4 (a0_4 + 7) w4 w5 ∧ ∀ A, kRep w4 a1_4 A → kRep w5 a0_4 A) → Φ (.inl none) w5) : mW G mX3_takeOver 3 0 0 0 [(0, .ref a0), (1, .ref a1)] [] w Φ := by
  refine mW_aload_n (j := 1) dX3_takeOver_0 rfl rfl ?_
  refine mW_getR dX3_takeOver_1 f_X3_18 h1 rfl h2 ?_
  refine mW_aload_n (j := 0) dX3_takeOver_4 rfl rfl ?_
  refine mW_getR dX3_takeOver_5 f_X3_18 h3 rfl h4 ?_
  refine mW_callSN (As := [.ref a1_0, .ref a0_0]) (rest := []) (kc2 := 0) (ks2 := 0) dX3_takeOver_8 l_X3_47 rfl (rX10_copyRow (w := w) (a0 := a1_0) (a1 := a0_0) h5 h6 s1 s2) (Nat.le_of_ble_eq_true rfl) (by decide) rfl rfl mP_x (mP_k (fun w1 q1 => ?_))
  refine mW_aload_n (j := 1) dX3_takeOver_11 rfl rfl ?_
  refine mW_getR dX3_takeOver_12 f_X3_23 (k_eq q1.1.1.1 h1) rfl (r_eq q1.1.1.2.1 h7) ?_
  refine mW_aload_n (j := 0) dX3_takeOver_15 rfl rfl ?_
  refine mW_getR dX3_takeOver_16 f_X3_23 (k_eq q1.1.1.1 h3) rfl (r_eq q1.1.1.2.1 h8) ?_
  refine mW_callSN (As := [.ref a1_1, .ref a0_1]) (rest := []) (kc2 := 0) (ks2 := 0) dX3_takeOver_19 l_X3_47 rfl (rX10_copyRow (w := w1) (a0 := a1_1) (a1 := a0_1) (k_eq q1.1.1.1 h9) (k_eq q1.1.1.1 h10) (s3 w1 q1) (s4 w1 q1)) (Nat.le_of_ble_eq_true rfl) (by decide) rfl rfl mP_x (mP_k (fun w2 q2 => ?_))
  refine mW_aload_n (j := 0) dX3_takeOver_22 rfl rfl ?_
  refine mW_getR dX3_takeOver_23 f_X3_29 (k_eq q2.1.1.1 (k_eq q1.1.1.1 h3)) rfl (r_eq q2.1.1.2.1 (r_eq q1.1.1.2.1 h11)) ?_
  refine mW_aload_n (j := 1) dX3_takeOver_26 rfl rfl ?_
  refine mW_getR dX3_takeOver_27 f_X3_29 (k_eq q2.1.1.1 (k_eq q1.1.1.1 h1)) rfl (r_eq q2.1.1.2.1 (r_eq q1.1.1.2.1 h12)) ?_
  refine mW_callV (As := [.ref a1_2]) (rest := []) (kc2 := 0) (ks2 := 0) dX3_takeOver_30 l_X3_51 rfl (k_eq q2.1.1.1 (k_eq q1.1.1.1 h13)) rfl (by decide) (rX1_takeOver (w := w2) (a0 := a0_2) (a1 := a1_2) (zGrid_s2 (mS2.of q2.1.1) (zGrid_s2 (mS2.of q1.1.1) h14)) (zGrid_s2 (mS2.of q2.1.1) (zGrid_s2 (mS2.of q1.1.1) h15)) (s5 w1 q1 w2 q2)) (Nat.le_of_ble_eq_true rfl) (by decide) rfl rfl mP_x (mP_k (fun w3 q3 => ?_))
  refine mW_aload_n (j := 0) dX3_takeOver_33 rfl rfl ?_
  refine mW_getR dX3_takeOver_34 f_X3_36 (k_eq q3.1.1.1 (k_eq q2.1.1.1 (k_eq q1.1.1.1 h3))) rfl (r_eq q3.1.1.2.1 (r_eq q2.1.1.2.1 (r_eq q1.1.1.2.1 h16))) ?_
  refine mW_aload_n (j := 1) dX3_takeOver_37 rfl rfl ?_
  refine mW_getR dX3_takeOver_38 f_X3_36 (k_eq q3.1.1.1 (k_eq q2.1.1.1 (k_eq q1.1.1.1 h1))) rfl (r_eq q3.1.1.2.1 (r_eq q2.1.1.2.1 (r_eq q1.1.1.2.1 h17))) ?_
  refine mW_callV (As := [.ref a1_3]) (rest := []) (kc2 := 0) (ks2 := 0) dX3_takeOver_41 l_X3_55 rfl (k_eq q3.1.1.1 (k_eq q2.1.1.1 (k_eq q1.1.1.1 h18))) rfl (by decide) (rX5_takeOver (w := w3) (a0 := a0_3) (a1 := a1_3) (zTab_s2 (mS2.of q3.1.1) (zTab_s2 (mS2.of q2.1.1) (zTab_s2 (mS2.of q1.1.1) h19))) (zTab_s2 (mS2.of q3.1.1) (zTab_s2 (mS2.of q2.1.1) (zTab_s2 (mS2.of q1.1.1) h20))) (s6 w1 q1 w2 q2 w3 q3)) (Nat.le_of_ble_eq_true rfl) (by decide) rfl rfl mP_x (mP_k (fun w4 q4 => ?_))
  refine mW_aload_n (j := 0) dX3_takeOver_44 rfl rfl ?_
  refine mW_getR dX3_takeOver_45 f_X3_43 (k_eq q4.1.1.1 (k_eq q3.1.1.1 (k_eq q2.1.1.1 (k_eq q1.1.1.1 h3)))) rfl (r_eq q4.1.1.2.1 (r_eq q3.1.1.2.1 (r_eq q2.1.1.2.1 (r_eq q1.1.1.2.1 h21)))) ?_
  refine mW_aload_n (j := 1) dX3_takeOver_48 rfl rfl ?_
  refine mW_getR dX3_takeOver_49 f_X3_43 (k_eq q4.1.1.1 (k_eq q3.1.1.1 (k_eq q2.1.1.1 (k_eq q1.1.1.1 h1)))) rfl (r_eq q4.1.1.2.1 (r_eq q3.1.1.2.1 (r_eq q2.1.1.2.1 (r_eq q1.1.1.2.1 h22)))) ?_
  refine mW_callV (As := [.ref a1_4]) (rest := []) (kc2 := 0) (ks2 := 0) dX3_takeOver_52 l_X3_58 rfl (k_eq q4.1.1.1 (k_eq q3.1.1.1 (k_eq q2.1.1.1 (k_eq q1.1.1.1 h23)))) rfl (by decide) (rX7_takeOver (w := w4) (a0 := a0_4) (a1 := a1_4) (zTrk_s2 (mS2.of q4.1.1) (zTrk_s2 (mS2.of q3.1.1) (zTrk_s2 (mS2.of q2.1.1) (zTrk_s2 (mS2.of q1.1.1) h24)))) (zTrk_s2 (mS2.of q4.1.1) (zTrk_s2 (mS2.of q3.1.1) (zTrk_s2 (mS2.of q2.1.1) (zTrk_s2 (mS2.of q1.1.1) h25)))) (s7 w1 q1 w2 q2 w3 q3 w4 q4)) (Nat.le_of_ble_eq_true rfl) (by decide) rfl rfl mP_x (mP_k (fun w5 q5 => ?_))
  exact mW_vret dX3_takeOver_55 rfl (k1 w1 q1 w2 q2 w3 q3 w4 q4 w5 q5)
theorem rX3_takeOver {G : mG} {w : mH} {a0 a1 : Nat} (z0 : zSet w a0) (z1 : zSet w a1) (s : a0 + 17 ≤ a1 ∨ a1 + 17 ≤ a0) : mC G mX3_takeOver 3 0 0 [.ref a0, .ref a1] w (mP none (fun w' => mFr a0 (a0 + 17) w w' ∧ ∀ A, sRep w a1 A → sRep w' a0 A)) := by
  refine mC_of (by decide +kernel) rfl (Nat.le_of_ble_eq_true rfl) rfl ?_
  refine tX3_takeOver (a1_0 := a1 + 1) (a0_0 := a0 + 1) (a1_1 := a1 + 2) (a0_1 := a0 + 2) (a0_2 := a0 + 3) (a1_2 := a1 + 3) (a0_3 := a0 + 7) (a1_3 := a1 + 7) (a0_4 := a0 + 10) (a1_4 := a1 + 10) z1.1 z1.2.1 z0.1 z0.2.1 z1.2.2.2.2.2.2.1 z0.2.2.2.2.2.2.1 ?_ ?_ z1.2.2.1 z0.2.2.1 z1.2.2.2.2.2.2.2.1 z0.2.2.2.2.2.2.2.1 ?_ ?_ z0.2.2.2.1 z1.2.2.2.1 z0.2.2.2.2.2.2.2.2.1.1 z0.2.2.2.2.2.2.2.2.1 z1.2.2.2.2.2.2.2.2.1 ?_ z0.2.2.2.2.1 z1.2.2.2.2.1 z0.2.2.2.2.2.2.2.2.2.1.1 z0.2.2.2.2.2.2.2.2.2.1 z1.2.2.2.2.2.2.2.2.2.1 ?_ z0.2.2.2.2.2.1 z1.2.2.2.2.2.1 z0.2.2.2.2.2.2.2.2.2.2.1 z0.2.2.2.2.2.2.2.2.2.2 z1.2.2.2.2.2.2.2.2.2.2 ?_ ?_
  rotate_right
  · intro w1 q1 w2 q2 w3 q3 w4 q4 w5 q5
    have F1 : mFr a0 (a0 + 17) w w1 := q1.1.wide (by omega) (by omega)
    have F2 : mFr a0 (a0 + 17) w w2 := F1.tr (q2.1.wide (by omega) (by omega))
    have F3 : mFr a0 (a0 + 17) w w3 := F2.tr (q3.1.wide (by omega) (by omega))
    have F4 : mFr a0 (a0 + 17) w w4 := F3.tr (q4.1.wide (by omega) (by omega))
    refine mP_of ⟨F4.tr (q5.1.wide (by omega) (by omega)), fun A h => ?_⟩
    obtain ⟨g1, g2, g3, g4, g5⟩ := h
    refine ⟨fun k hk => ?_, fun k hk => ?_, ?_, ?_, q5.2 A (kRep_fr F4 (by omega) g5)⟩
    · simp (disch := omega) only [q5.1.hai, q4.1.hai, q3.1.hai, q2.1.hai, q1.2]
      exact g1 k hk
    · simp (disch := omega) only [q5.1.hai, q4.1.hai, q3.1.hai, q2.2, q1.1.hai]
      exact g2 k hk
    · exact gRep_fr q5.1 (by omega) (gRep_fr q4.1 (by omega) (q3.2 A (gRep_fr F2 (by omega) g3)))
    · exact tRep_fr q5.1 (by omega) (q4.2 A (tRep_fr F3 (by omega) g4))
  all_goals (intros; first | rfl | decide | omega)
