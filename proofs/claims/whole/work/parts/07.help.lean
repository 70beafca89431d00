/-! helpers of the printed walks -/
section MR
variable {G : mG} {M : mM} {d kc ks pc : Nat} {lv : List (Nat × Value)} {st : List Value} {w : mH} {Φ : mF}
theorem mW_getR {a idx ci k b : Nat} (hd : decode M.2.1 pc = .ok (.getfield idx, 3)) (hF : mFld M.1.cls idx ci k) (hkd : hk w a = (ci, 0)) (hv : (mOb w a ci)[k]? = some (va_rf (hfr w a k))) (hb : hfr w a k = some b) (kk : mW G M d kc ks (pc + 3) lv (.ref b :: st) w Φ) : mW G M d kc ks pc lv (.ref a :: st) w Φ := by
  refine mW_get hd hF hkd hv ?_
  rw [hb]
  exact kk
def mRi (G : mG) (M : mM) (d kc ks pc : Nat) (lv : List (Nat × Value)) (st : List Value) (Φ : mF) : mF := fun o w' => ∃ r : Int32, o = .inl (some (.int r)) ∧ mW G M d kc ks pc lv (.int r :: st) w' Φ
def mRl (G : mG) (M : mM) (d kc ks pc : Nat) (lv : List (Nat × Value)) (st : List Value) (Φ : mF) : mF := fun o w' => ∃ r : Int64, o = .inl (some (.long r)) ∧ mW G M d kc ks pc lv (.long r :: st) w' Φ
def mRf (G : mG) (M : mM) (d kc ks pc : Nat) (lv : List (Nat × Value)) (st : List Value) (Φ : mF) : mF := fun o w' => ∃ r : UInt32, o = .inl (some (.float r)) ∧ mW G M d kc ks pc lv (.float r :: st) w' Φ
def mRd (G : mG) (M : mM) (d kc ks pc : Nat) (lv : List (Nat × Value)) (st : List Value) (Φ : mF) : mF := fun o w' => ∃ r : UInt64, o = .inl (some (.double r)) ∧ mW G M d kc ks pc lv (.double r :: st) w' Φ
def mRr (G : mG) (M : mM) (d kc ks pc : Nat) (lv : List (Nat × Value)) (st : List Value) (Φ : mF) : mF := fun o w' => ∃ r : Value, o = .inl (some r) ∧ mW G M d kc ks pc lv (r :: st) w' Φ
def mRv (G : mG) (M : mM) (d kc ks pc : Nat) (lv : List (Nat × Value)) (st : List Value) (Φ : mF) : mF := fun o w' => o = .inl none ∧ mW G M d kc ks pc lv st w' Φ
theorem mRix : ∀ E w', ¬ mRi G M d kc ks pc lv st Φ (.inr E) w' := fun E w' h => by obtain ⟨r, h, -⟩ := h; cases h
theorem mRik : ∀ v w', mRi G M d kc ks pc lv st Φ (.inl v) w' → mW G M d kc ks pc lv (v.toList ++ st) w' Φ := fun v w' h => by obtain ⟨r, h, k⟩ := h; cases h; exact k
theorem mRlx : ∀ E w', ¬ mRl G M d kc ks pc lv st Φ (.inr E) w' := fun E w' h => by obtain ⟨r, h, -⟩ := h; cases h
theorem mRlk : ∀ v w', mRl G M d kc ks pc lv st Φ (.inl v) w' → mW G M d kc ks pc lv (v.toList ++ st) w' Φ := fun v w' h => by obtain ⟨r, h, k⟩ := h; cases h; exact k
theorem mRfx : ∀ E w', ¬ mRf G M d kc ks pc lv st Φ (.inr E) w' := fun E w' h => by obtain ⟨r, h, -⟩ := h; cases h
theorem mRfk : ∀ v w', mRf G M d kc ks pc lv st Φ (.inl v) w' → mW G M d kc ks pc lv (v.toList ++ st) w' Φ := fun v w' h => by obtain ⟨r, h, k⟩ := h; cases h; exact k
theorem mRdx : ∀ E w', ¬ mRd G M d kc ks pc lv st Φ (.inr E) w' := fun E w' h => by obtain ⟨r, h, -⟩ := h; cases h
theorem mRdk : ∀ v w', mRd G M d kc ks pc lv st Φ (.inl v) w' → mW G M d kc ks pc lv (v.toList ++ st) w' Φ := fun v w' h => by obtain ⟨r, h, k⟩ := h; cases h; exact k
theorem mRrx : ∀ E w', ¬ mRr G M d kc ks pc lv st Φ (.inr E) w' := fun E w' h => by obtain ⟨r, h, -⟩ := h; cases h
theorem mRrk : ∀ v w', mRr G M d kc ks pc lv st Φ (.inl v) w' → mW G M d kc ks pc lv (v.toList ++ st) w' Φ := fun v w' h => by obtain ⟨r, h, k⟩ := h; cases h; exact k
theorem mRvx : ∀ E w', ¬ mRv G M d kc ks pc lv st Φ (.inr E) w' := fun E w' h => by obtain ⟨h, -⟩ := h; cases h
theorem mRvk : ∀ v w', mRv G M d kc ks pc lv st Φ (.inl v) w' → mW G M d kc ks pc lv (v.toList ++ st) w' Φ := fun v w' h => by obtain ⟨h, k⟩ := h; cases h; exact k
theorem mC_i {M' : mM} {d' kc' ks' : Nat} {av : List Value} {w2 : mH} {r : Int32} (h : mC G M' d' kc' ks' av w (mEq (.inl (some (.int r))) w2)) (k : mW G M d kc ks pc lv (.int r :: st) w2 Φ) : mC G M' d' kc' ks' av w (mRi G M d kc ks pc lv st Φ) := mC_mono (fun o w' q => by obtain ⟨rfl, rfl⟩ := q; exact ⟨r, rfl, k⟩) h
theorem mC_l {M' : mM} {d' kc' ks' : Nat} {av : List Value} {w2 : mH} {r : Int64} (h : mC G M' d' kc' ks' av w (mEq (.inl (some (.long r))) w2)) (k : mW G M d kc ks pc lv (.long r :: st) w2 Φ) : mC G M' d' kc' ks' av w (mRl G M d kc ks pc lv st Φ) := mC_mono (fun o w' q => by obtain ⟨rfl, rfl⟩ := q; exact ⟨r, rfl, k⟩) h
theorem mC_f {M' : mM} {d' kc' ks' : Nat} {av : List Value} {w2 : mH} {r : UInt32} (h : mC G M' d' kc' ks' av w (mEq (.inl (some (.float r))) w2)) (k : mW G M d kc ks pc lv (.float r :: st) w2 Φ) : mC G M' d' kc' ks' av w (mRf G M d kc ks pc lv st Φ) := mC_mono (fun o w' q => by obtain ⟨rfl, rfl⟩ := q; exact ⟨r, rfl, k⟩) h
theorem mC_d {M' : mM} {d' kc' ks' : Nat} {av : List Value} {w2 : mH} {r : UInt64} (h : mC G M' d' kc' ks' av w (mEq (.inl (some (.double r))) w2)) (k : mW G M d kc ks pc lv (.double r :: st) w2 Φ) : mC G M' d' kc' ks' av w (mRd G M d kc ks pc lv st Φ) := mC_mono (fun o w' q => by obtain ⟨rfl, rfl⟩ := q; exact ⟨r, rfl, k⟩) h
theorem mC_v {M' : mM} {d' kc' ks' : Nat} {av : List Value} {w2 : mH} (h : mC G M' d' kc' ks' av w (mEq (.inl none) w2)) (k : mW G M d kc ks pc lv st w2 Φ) : mC G M' d' kc' ks' av w (mRv G M d kc ks pc lv st Φ) := mC_mono (fun o w' q => by obtain ⟨rfl, rfl⟩ := q; exact ⟨rfl, k⟩) h
theorem mW_getsN {i idx : Nat} {host : String} (hd : decode M.2.1 pc = .ok (.getstatic idx, 3)) (hi : i < 5) (hlk : Cond.fieldLinkNest M.1.cls idx (mSn i).1 (mSn i).2.1 (mSn i).2.2 host ∈ lw_tbl) (kk : mW G M d kc ks (pc + 3) lv (.ref (G.2.2.2 i) :: st) w Φ) : mW G M d kc ks pc lv st w Φ := by
  intro p l e R s m args below meth c H locs cells slots mc ms ls X h1 h2 h3 h4 hS hP hl
  have hts := X.2.2.2.2.2.2.2.1
  have hI := X.2.2.2.2.2.2.2.2.1
  exact va_getsN X.1 X.2.1 (hI.2.2.1 i hi).1 hS X.2.2.2.2.2.1 (va_Nw.use rfl (hI.2.2.2.2.2.2.2 _ hlk rfl)) (fun _ h => h) hd (kk p l e R s m args below meth c H locs cells slots mc ms ls X h1 h2 h3 h4 hS hP hl)
theorem mW_getsS {i idx : Nat} (hd : decode M.2.1 pc = .ok (.getstatic idx, 3)) (hi : i < 5) (hlk : Cond.fieldLink M.1.cls idx (mSn i).1 (mSn i).2.1 (mSn i).2.2 ∈ mTs) (kk : mW G M d kc ks (pc + 3) lv (.ref (G.2.2.2 i) :: st) w Φ) : mW G M d kc ks pc lv st w Φ := mW_gets (ref := "") hd hi hlk (fun t _ ht => by rw [ht]; exact kk)
theorem m_out {lo n : Int} {x : Int32} (h1 : -1000 < lo ∧ lo < 1000) (h2 : 0 ≤ n ∧ n < 1000) (h : ∀ v : Int, lo ≤ v → v < lo + n → ¬ x.toInt = v) : x.toInt < lo ∨ lo + n - 1 < x.toInt := by
  rcases Int.lt_or_le x.toInt lo with a | a
  · exact Or.inl a
  · rcases Int.lt_or_le x.toInt (lo + n) with b | b
    · exact absurd rfl (h _ a b)
    · exact Or.inr (by omega)
end MR
