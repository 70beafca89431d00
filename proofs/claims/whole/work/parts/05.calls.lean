/-! calls of the small machine -/
def mws (M : mM) : List Cond := Cond.code M.1 M.2.1 M.2.2.1 M.2.2.2.1 :: mTs
def mPc (G : mG) (av : List Value) (w : mH) : Array Value → State → Prop := fun a U => a = av.toArray ∧ mInv G U U.heap ∧ mPic G w U.heap
def mC (G : mG) (M : mM) (d kc ks : Nat) (av : List Value) (w : mH) (Φ : mF) : Prop := ∀ l : Launch, l.stackTraces = false → vx_Met l M.1 (mws M) ({ frames := d, cells := kc, slots := ks, locals := 100 * d }) (mPc G av w) (mQc G Φ) (mXC G Φ) kc ks (mA G)
def mEq (o : Option Value ⊕ String) (w : mH) : mF := fun o' w' => o' = o ∧ w' = w
theorem mEq_rf {o : Option Value ⊕ String} {w : mH} : mEq o w o w := ⟨rfl, rfl⟩
theorem mStat_moved {G : mG} {u U : State} {H : Heap} (hvm : u.WarmedH U.vm) (h : mStat G u H) : mStat G U H := by
  obtain ⟨h1, h2, h3, h4, h5, h6⟩ := h
  have hA := hvm.alike
  obtain ⟨h2, g1, g2, g3, g4, g5⟩ := h2
  refine ⟨fun i hi => ⟨(h1 i hi).1.moved hA, (h1 i hi).2.moved hA⟩, ⟨h2.moved hA, g1, ⟨g2.1.moved hA, g2.2⟩, g3.moved hA, g4.moved hA, fun q hq => (g5 q hq).moved hA⟩, h3.moved hA, h4.moved hA, fun q hq => ?_, fun w hw hn => ?_⟩
  · obtain ⟨sa, hs⟩ := h5 q hq
    exact ⟨sa, hs.warm hvm⟩
  · have hz := h6 w hw hn
    unfold mNest at hn
    split at hn
    · exact va_Nw.warmM hvm hz
    · exact va_Nw.warmF hvm hz
    · exact va_Nw.warmC hvm hz
    · exact va_Nw.warmD hvm hz
    · exact va_tabs rfl (rfl : (u.setVm U.vm).vm = U.vm) (by rw [Cond.privateMethod_setVm hvm.alike]; exact hz)
    · cases hn
theorem mStat_kept {G : mG} {U : State} {H H1 : Heap} (h : mStat G U H) (hq : ∀ a : Nat, a < H.size → ¬ mA G a → H1[a]? = H[a]?) : mStat G U H1 := by
  obtain ⟨h1, h2, h3, h4, h5, h6⟩ := h
  obtain ⟨h2, ⟨cell, k1, k2⟩, g2, g3, g4, g5⟩ := h2
  refine ⟨fun i hi => ⟨(h1 i hi).1.kept hq, (h1 i hi).2.kept hq⟩, ⟨h2.kept hq, ⟨cell, ?_, k2⟩, ⟨g2.1.kept ?_, g2.2⟩, g3.kept hq, g4, g5⟩, h3.kept hq, h4.kept hq, h5, h6⟩
  · rw [hq _ (Array.getElem?_eq_some_iff.mp k1).1 k2.2.2.2.2]
    exact k1
  · obtain ⟨scr, j1, -⟩ := g2.1
    exact hq _ (Array.getElem?_eq_some_iff.mp j1).1 g2.2
theorem mInv_at {G : mG} {s U : State} {H : Heap} {locs : List Loc} (h : mInv G s s.heap) (hW : s.WarmedH U.vm) (hS : va_S (mA G) s.heap H locs) (hU : U.heap = H) : mInv G U U.heap := by
  obtain ⟨h1, h2, h3⟩ := h
  subst hU
  exact ⟨va_K.moved hW.alike h1, Nat.le_trans h2 hS.1, mStat_kept (mStat_moved hW h3) hS.2.1⟩
theorem mInv_calling {G : mG} {U : State} {g : JFrame} {mk : MethodId} {a : Array Value} (h : mInv G U U.heap) : mInv G (U.calling g mk a) (U.calling g mk a).heap := by
  have hW : U.WarmedH (U.calling g mk a).vm := State.WarmedH.refl U
  exact mInv_at (locs := []) h hW va_S.rf rfl
theorem mPc_blind {G : mG} {av : List Value} {w : mH} : FrameBlind (mPc G av w) := fun a U g mk h => ⟨h.1, mInv_calling h.2.1, h.2.2⟩
section MC
variable {G : mG} {M M' : mM} {d d' kc ks kc' ks' kc2 ks2 pc : Nat} {lv : List (Nat × Value)} {st rest As : List Value} {w w2 : mH} {Φ Ψ : mF}
theorem mC_of {av : List Value} (hpl : plainName M.1.cls = true) (hh : M.2.2.2.2 = []) (hn : (lg_sl av).length ≤ M.2.2.1) (hlv : lv_args 0 av = lv) (k : mW G M d kc ks 0 lv [] w Φ) : mC G M d kc ks av w Φ := by
  intro l hl
  refine vx_ofW (cc := M.2.1) (maxL := M.2.2.1) (ret := M.2.2.2.1) (ws' := mTs) hpl rfl ?_
  intro p e s m args below meth c s₁ B hml ht hP
  obtain ⟨rfl, hI, hPic⟩ := hP
  have hX : mCtx G M p l (headSpec (mws M) ({ frames := d, cells := kc, slots := ks, locals := 100 * d })).room s m av.toArray meth c d := ⟨B.exec, B.bytes, hml, B.returns, B.notSynchronized, findClass_of_methodNamed B.named, (name_of_methodNamed B.named B.method).1, fun w hw => atoms_spec (ws := mws M) B.pre w (List.mem_cons_of_mem _ hw), hI, hl, fun _ => by rw [hh]; exact List.eq_nil_iff_forall_not_mem.mpr (fun x hx => ht x hx), Nat.le_refl _, Nat.le_refl _⟩
  rw [lg_entry_eq]
  exact k p l e _ s m _ below meth c s.heap [] 0 0 kc ks _ hX (by omega) (by omega) (Nat.le_refl _) (Nat.le_refl _) va_S.rf hPic (hlv ▸ lv_entry av hn)
theorem mC_mono (h : ∀ o w', Ψ o w' → Φ o w') {av : List Value} (k : mC G M d kc ks av w Ψ) : mC G M d kc ks av w Φ := by
  intro l hl
  refine MetFree.mono (k l hl) (fun _ _ h => h) (fun _ _ _ _ _ h => h) (fun a st o t _ hq => ?_)
  rcases hq with ⟨⟨v, w', c1, c2, c3⟩, c4⟩ | ⟨q, c1, E, ce, L, ⟨w', c2, c3⟩, c4⟩
  · exact Or.inl ⟨⟨v, w', c1, h _ _ c2, c3⟩, c4⟩
  · exact Or.inr ⟨q, c1, E, ce, L, ⟨w', h _ _ c2, c3⟩, c4⟩
theorem m_run {p : Program} {l : Launch} {e : Env} {R : Room} {s : State} {m : MethodId} {args : Array Value} {below : List Frame} {meth : Method} {c : Code} {H : Heap} {locs : List Loc} {cells slots mc ms : Nat} {ls : Array Slot} {st0 : List Value} {a : Array Value}
    (hr : vx_Run p l e R s m args below meth c H locs cells slots kc' ks' (F0 m pc ls st0) rest (mQc G Ψ a) (mXC G Ψ) (mA G)) (X : mCtx G M p l R s m args meth c d) (h1 : cells + (kc' + kc2) ≤ mc) (h2 : slots + (ks' + ks2) ≤ ms) (h3 : mc ≤ R.cells) (h4 : ms ≤ R.slots) (hS : va_S (mA G) s.heap H locs) (hl : lv_has ls M.2.2.1 lv)
    (kx : ∀ E w', ¬ Ψ (.inr E) w') (kk : ∀ v w', Ψ (.inl v) w' → mW G M d kc2 ks2 (pc + 3) lv (v.toList ++ rest) w' Φ) : W p l e R s m args below meth c H locs cells slots (vx_MQ below (mQc G Φ) (mXC G Φ) args s mc ms (mA G)) (F0 m pc ls st0) := by
  intro T hT Y
  rcases hr T hT Y with ⟨v, st₀, t, T', L, e0, Y', hL, e1, e2, ⟨v', w', hv, hΨ, hP', hF⟩, hgo⟩ | ⟨q, st₀, t, T', L, E, ce, e0, Y', hL, e1, e2, ⟨w', hΨ, hP', hF⟩, hrest⟩
  · cases hv
    have hS' : va_S (mA G) s.heap T'.heap (locs ++ L) := by
      refine ⟨?_, fun q g1 g2 => ?_, fun q hq => ?_⟩
      · rw [e1]
        have := hF.1
        rw [e0] at this
        exact Nat.le_trans hS.1 this
      · rw [e1, hF.2 q (by rw [e0]; exact Nat.lt_of_lt_of_le g1 hS.1) g2, e0]
        exact hS.2.1 q g1 g2
      · rcases List.mem_append.mp hq with h | h
        · exact hS.2.2 q h
        · exact hL q h
    obtain ⟨tt, a1, b1⟩ := kk v w' hΨ p l e R s m args below meth c T'.heap (locs ++ L) (cells + kc') (slots + ks') mc ms ls X (by omega) (by omega) h3 h4 hS' (by rw [e1]; exact hP') hl T' rfl Y'
    exact ⟨tt, hgo _ a1, b1⟩
  · exact absurd hΨ (kx E w')
/-- what a call wants of the tables -/
def mDesc (y : MethodName) (n : Nat) : Prop := y.cls ≠ "java/lang/invoke/MethodHandle" ∧ y.cls ≠ "java/lang/invoke/VarHandle" ∧ (parseMethodDescriptor y.desc).map (fun d => d.parameters.length) = some n
def mCode (M' : mM) : Prop := Cond.code M'.1 M'.2.1 M'.2.2.1 M'.2.2.2.1 ∈ mTs ∧ Cond.initialized M'.1.cls ∈ mTs ∧ M'.2.2.1 ≤ 80
def mLinkV (own : String) (idx n : Nat) (M' : mM) : Prop := mDesc M'.1 n ∧ mCode M' ∧ Cond.methodLink own idx M'.1 ∈ mTs ∧ Cond.instanceMethod M'.1 ∈ mTs ∧ Cond.selects M'.1.cls M'.1 M'.1 ∈ mTs
def mLinkS (own : String) (idx n : Nat) (M' : mM) : Prop := mDesc M'.1 n ∧ mCode M' ∧ Cond.methodLink own idx M'.1 ∈ mTs ∧ Cond.static M'.1 ∈ mTs
def mLinkI (own : String) (idx n : Nat) (M' : mM) : Prop := mDesc M'.1 n ∧ mCode M' ∧ Cond.methodLink own idx M'.1 ∈ mTs ∧ Cond.instanceMethod M'.1 ∈ mTs ∧ M'.1.name = "<init>" ∧ M'.2.2.2.1 = none
def mLinkVN (own : String) (idx n : Nat) (M' : mM) (host : String) : Prop := mDesc M'.1 n ∧ mCode M' ∧ Cond.methodLinkNest own idx M'.1 host ∈ lw_tbl ∧ Cond.instanceMethod M'.1 ∈ mTs ∧ Cond.selects M'.1.cls M'.1 M'.1 ∈ mTs
def mLinkSN (own : String) (idx n : Nat) (M' : mM) (host : String) : Prop := mDesc M'.1 n ∧ mCode M' ∧ Cond.methodLinkNest own idx M'.1 host ∈ lw_tbl ∧ Cond.static M'.1 ∈ mTs
def mLinkIN (own : String) (idx n : Nat) (M' : mM) (host : String) : Prop := mDesc M'.1 n ∧ mCode M' ∧ Cond.methodLinkNest own idx M'.1 host ∈ lw_tbl ∧ Cond.instanceMethod M'.1 ∈ mTs ∧ M'.1.name = "<init>" ∧ M'.2.2.2.1 = none
theorem mws_in (h : mCode M') : ∀ w ∈ mws M', w ∈ mTs := fun w hw => by
  rcases List.mem_cons.mp hw with rfl | hw
  · exact h.1
  · exact hw
theorem m_in4 {a b c e : Cond} {L : List Cond} (h1 : a ∈ mTs) (h2 : b ∈ mTs) (h3 : c ∈ mTs) (h4 : e ∈ mTs) (h : ∀ w ∈ L, w ∈ mTs) : ∀ w ∈ ([a, b, c, e] : List Cond) ++ L, w ∈ mTs := fun w hw => by
  rcases List.mem_append.mp hw with hw | hw
  · simp only [List.mem_cons, List.not_mem_nil, or_false] at hw
    rcases hw with rfl | rfl | rfl | rfl <;> assumption
  · exact h w hw
theorem m_in3 {a b c : Cond} {L : List Cond} (h1 : a ∈ mTs) (h2 : b ∈ mTs) (h3 : c ∈ mTs) (h : ∀ w ∈ L, w ∈ mTs) : ∀ w ∈ ([a, b, c] : List Cond) ++ L, w ∈ mTs := fun w hw => by
  rcases List.mem_append.mp hw with hw | hw
  · simp only [List.mem_cons, List.not_mem_nil, or_false] at hw
    rcases hw with rfl | rfl | rfl <;> assumption
  · exact h w hw
theorem mW_callV {idx n : Nat} {b : Nat} (hd : decode M.2.1 pc = .ok (.invokevirtual idx, 3)) (hF : mLinkV M.1.cls idx n M') (hn : As.length = n) {ci : Nat} {T : u_T} {N : Nat} (hkd : hk w b = (ci, 0)) (hc : mCl[ci]? = some (M'.1.cls, T, N)) (h16 : ci < 16) (hC : mC G M' d' kc' ks' (.ref b :: As) w Ψ) (hr : (rest.map fun v => v.category).sum ≤ 8) (hdd : d' + 1 ≤ d) (hk1 : kc' + kc2 = kc) (hk2 : ks' + ks2 = ks) (kx : ∀ E w', ¬ Ψ (.inr E) w') (kk : ∀ v w', Ψ (.inl v) w' → mW G M d kc2 ks2 (pc + 3) lv (v.toList ++ rest) w' Φ) : mW G M d kc ks pc lv (As.reverse ++ .ref b :: rest) w Φ := by
  intro p l e R s m args below meth c H locs cells slots mc ms ls X h1 h2 h3 h4 hS hP hl
  obtain ⟨hx, hb, hml, hrr, hlocks, hown, hnm, hts, hI, hlt, hxt, hdf, hdl⟩ := id X
  obtain ⟨hde, hco, hlk, hins, hsel⟩ := hF
  subst hk1
  subst hk2
  have hR : d' + 1 ≤ R.frames ∧ 8 + (M'.2.2.1 + 11) + 100 * d' ≤ R.locals := ⟨by omega, by have := hco.2.2; omega⟩
  refine m_run (Ψ := Ψ) (kc' := kc') (ks' := ks') (rest := rest) (vx_runV (Pc := mPc G (.ref b :: As) w) (As := As) (rest := rest) (n := n) (Ts := mTs) ⟨hx, hb, hml, hown, hts⟩ (hC l hlt) (cwV n hts (mTs_good (m_in4 hlk hins hsel hco.2.1 (mws_in hco))) rfl rfl rfl ⟨rfl, hde.1, hde.2.1, hde.2.2⟩ hR) ⟨mPc_blind, va_recv hI.1 (mPic_one hP (by rw [hkd]; show ci < 32; omega) (mE_ob hkd h16)) hc (q0 := 0) rfl, fun U hU hW => ⟨rfl, mInv_at hI hW hS hU, by rw [hU]; exact hP⟩⟩ rfl hn hl.1 rfl (lv_room hr) hd ⟨by omega, by omega⟩) X h1 h2 h3 h4 hS hl kx kk
theorem mW_callVe {idx n : Nat} {b : Nat} {v : Option Value} (hd : decode M.2.1 pc = .ok (.invokevirtual idx, 3)) (hF : mLinkV M.1.cls idx n M') (hn : As.length = n) {ci : Nat} {T : u_T} {N : Nat} (hkd : hk w b = (ci, 0)) (hc : mCl[ci]? = some (M'.1.cls, T, N)) (h16 : ci < 16) (hC : mC G M' d' kc' ks' (.ref b :: As) w (mEq (.inl v) w2)) (hr : (rest.map fun v => v.category).sum ≤ 8) (hdd : d' + 1 ≤ d) (hk1 : kc' + kc2 = kc) (hk2 : ks' + ks2 = ks) (kk : mW G M d kc2 ks2 (pc + 3) lv (v.toList ++ rest) w2 Φ) : mW G M d kc ks pc lv (As.reverse ++ .ref b :: rest) w Φ :=
  mW_callV hd hF hn hkd hc h16 hC hr hdd hk1 hk2 (fun E w' h => by cases h.1) (fun v' w' h => by obtain ⟨h1, h2⟩ := h; cases h1; subst h2; exact kk)
theorem mW_callS {idx n : Nat} (hd : decode M.2.1 pc = .ok (.invokestatic idx, 3)) (hF : mLinkS M.1.cls idx n M') (hn : As.length = n) (hC : mC G M' d' kc' ks' As w Ψ) (hr : (rest.map fun v => v.category).sum ≤ 8) (hdd : d' + 1 ≤ d) (hk1 : kc' + kc2 = kc) (hk2 : ks' + ks2 = ks) (kx : ∀ E w', ¬ Ψ (.inr E) w') (kk : ∀ v w', Ψ (.inl v) w' → mW G M d kc2 ks2 (pc + 3) lv (v.toList ++ rest) w' Φ) : mW G M d kc ks pc lv (As.reverse ++ rest) w Φ := by
  intro p l e R s m args below meth c H locs cells slots mc ms ls X h1 h2 h3 h4 hS hP hl
  obtain ⟨hx, hb, hml, hrr, hlocks, hown, hnm, hts, hI, hlt, hxt, hdf, hdl⟩ := id X
  obtain ⟨hde, hco, hlk, hsta⟩ := hF
  subst hk1
  subst hk2
  have hR : d' + 1 ≤ R.frames ∧ 8 + (M'.2.2.1 + 11) + 100 * d' ≤ R.locals := ⟨by omega, by have := hco.2.2; omega⟩
  refine m_run (Ψ := Ψ) (kc' := kc') (ks' := ks') (rest := rest) (vx_runS (Pc := mPc G As w) (As := As) (rest := rest) (n := n) (Ts := mTs) ⟨hx, hb, hml, hown, hts⟩ (hC l hlt) (va_cwS n hts (mTs_good (m_in3 hlk hsta hco.2.1 (mws_in hco))) rfl rfl rfl ⟨hde.1, hde.2.1, hde.2.2⟩ hR) ⟨mPc_blind, fun U hU hW => ⟨rfl, mInv_at hI hW hS hU, by rw [hU]; exact hP⟩⟩ rfl hn hl.1 rfl (lv_room hr) hd ⟨by omega, by omega⟩) X h1 h2 h3 h4 hS hl kx kk
theorem mW_callSe {idx n : Nat} {v : Option Value} (hd : decode M.2.1 pc = .ok (.invokestatic idx, 3)) (hF : mLinkS M.1.cls idx n M') (hn : As.length = n) (hC : mC G M' d' kc' ks' As w (mEq (.inl v) w2)) (hr : (rest.map fun v => v.category).sum ≤ 8) (hdd : d' + 1 ≤ d) (hk1 : kc' + kc2 = kc) (hk2 : ks' + ks2 = ks) (kk : mW G M d kc2 ks2 (pc + 3) lv (v.toList ++ rest) w2 Φ) : mW G M d kc ks pc lv (As.reverse ++ rest) w Φ :=
  mW_callS hd hF hn hC hr hdd hk1 hk2 (fun E w' h => by cases h.1) (fun v' w' h => by obtain ⟨h1, h2⟩ := h; cases h1; subst h2; exact kk)
theorem mW_callI {idx n : Nat} {b : Nat} (hd : decode M.2.1 pc = .ok (.invokespecial idx, 3)) (hF : mLinkI M.1.cls idx n M') (hn : As.length = n) (hC : mC G M' d' kc' ks' (.ref b :: As) w Ψ) (hr : (rest.map fun v => v.category).sum ≤ 8) (hdd : d' + 1 ≤ d) (hk1 : kc' + kc2 = kc) (hk2 : ks' + ks2 = ks) (kx : ∀ E w', ¬ Ψ (.inr E) w') (kk : ∀ v w', Ψ (.inl v) w' → mW G M d kc2 ks2 (pc + 3) lv (v.toList ++ rest) w' Φ) : mW G M d kc ks pc lv (As.reverse ++ .ref b :: rest) w Φ := by
  intro p l e R s m args below meth c H locs cells slots mc ms ls X h1 h2 h3 h4 hS hP hl
  obtain ⟨hx, hb, hml, hrr, hlocks, hown, hnm, hts, hI, hlt, hxt, hdf, hdl⟩ := id X
  obtain ⟨hde, hco, hlk, hins, hini, hrn⟩ := hF
  subst hk1
  subst hk2
  have hR : d' + 1 ≤ R.frames ∧ 8 + (M'.2.2.1 + 11) + 100 * d' ≤ R.locals := ⟨by omega, by have := hco.2.2; omega⟩
  refine m_run (Ψ := Ψ) (kc' := kc') (ks' := ks') (rest := rest) (vx_runI (Pc := mPc G (.ref b :: As) w) (As := As) (rest := rest) (n := n) (Ts := mTs) ⟨hx, hb, hml, hown, hts⟩ (hC l hlt) (cwI n hts (mTs_good (mws_in hco)) (by unfold mws; rw [hrn]) rfl rfl (hts _ hco.2.1) (hts _ hlk) (hts _ hins) hini hde hR) ⟨mPc_blind, fun U hU hW => ⟨rfl, mInv_at hI hW hS hU, by rw [hU]; exact hP⟩⟩ rfl hn hl.1 rfl (lv_room hr) hd ⟨by omega, by omega⟩) X h1 h2 h3 h4 hS hl kx kk
theorem mW_callIe {idx n : Nat} {b : Nat} {v : Option Value} (hd : decode M.2.1 pc = .ok (.invokespecial idx, 3)) (hF : mLinkI M.1.cls idx n M') (hn : As.length = n) (hC : mC G M' d' kc' ks' (.ref b :: As) w (mEq (.inl v) w2)) (hr : (rest.map fun v => v.category).sum ≤ 8) (hdd : d' + 1 ≤ d) (hk1 : kc' + kc2 = kc) (hk2 : ks' + ks2 = ks) (kk : mW G M d kc2 ks2 (pc + 3) lv (v.toList ++ rest) w2 Φ) : mW G M d kc ks pc lv (As.reverse ++ .ref b :: rest) w Φ :=
  mW_callI hd hF hn hC hr hdd hk1 hk2 (fun E w' h => by cases h.1) (fun v' w' h => by obtain ⟨h1, h2⟩ := h; cases h1; subst h2; exact kk)
theorem mW_callVN {idx n : Nat} {b : Nat} {host : String} (hd : decode M.2.1 pc = .ok (.invokevirtual idx, 3)) (hF : mLinkVN M.1.cls idx n M' host) (hn : As.length = n) {ci : Nat} {T : u_T} {N : Nat} (hkd : hk w b = (ci, 0)) (hc : mCl[ci]? = some (M'.1.cls, T, N)) (h16 : ci < 16) (hC : mC G M' d' kc' ks' (.ref b :: As) w Ψ) (hr : (rest.map fun v => v.category).sum ≤ 8) (hdd : d' + 1 ≤ d) (hk1 : kc' + kc2 = kc) (hk2 : ks' + ks2 = ks) (kx : ∀ E w', ¬ Ψ (.inr E) w') (kk : ∀ v w', Ψ (.inl v) w' → mW G M d kc2 ks2 (pc + 3) lv (v.toList ++ rest) w' Φ) : mW G M d kc ks pc lv (As.reverse ++ .ref b :: rest) w Φ := by
  intro p l e R s m args below meth c H locs cells slots mc ms ls X h1 h2 h3 h4 hS hP hl
  obtain ⟨hx, hb, hml, hrr, hlocks, hown, hnm, hts, hI, hlt, hxt, hdf, hdl⟩ := id X
  obtain ⟨hde, hco, hlk, hins, hsel⟩ := hF
  subst hk1
  subst hk2
  have hR : d' + 1 ≤ R.frames ∧ 8 + (M'.2.2.1 + 11) + 100 * d' ≤ R.locals := ⟨by omega, by have := hco.2.2; omega⟩
  refine m_run (Ψ := Ψ) (kc' := kc') (ks' := ks') (rest := rest) (vx_runVN (Pc := mPc G (.ref b :: As) w) (As := As) (rest := rest) (n := n) (Ts := mTs) ⟨hx, hb, hml, hown, hts⟩ (hC l hlt) (⟨va_cnB n hts (mTs_good (mws_in hco)) rfl rfl rfl (va_Nw.of rfl (by have := hI.2.2.2.2.2.2.2 _ hlk rfl; exact va_Nw.use rfl this : (Cond.methodLinkNest M.1.cls idx M'.1 host).before args s = true)) (hts _ hco.2.1) hde hR, hts _ hins, hts _ hsel⟩) ⟨mPc_blind, va_recv hI.1 (mPic_one hP (by rw [hkd]; show ci < 32; omega) (mE_ob hkd h16)) hc (q0 := 0) rfl, fun U hU hW => ⟨rfl, mInv_at hI hW hS hU, by rw [hU]; exact hP⟩⟩ rfl hn hl.1 rfl (lv_room hr) hd ⟨by omega, by omega⟩) X h1 h2 h3 h4 hS hl kx kk
theorem mW_callVNe {idx n : Nat} {b : Nat} {host : String} {v : Option Value} (hd : decode M.2.1 pc = .ok (.invokevirtual idx, 3)) (hF : mLinkVN M.1.cls idx n M' host) (hn : As.length = n) {ci : Nat} {T : u_T} {N : Nat} (hkd : hk w b = (ci, 0)) (hc : mCl[ci]? = some (M'.1.cls, T, N)) (h16 : ci < 16) (hC : mC G M' d' kc' ks' (.ref b :: As) w (mEq (.inl v) w2)) (hr : (rest.map fun v => v.category).sum ≤ 8) (hdd : d' + 1 ≤ d) (hk1 : kc' + kc2 = kc) (hk2 : ks' + ks2 = ks) (kk : mW G M d kc2 ks2 (pc + 3) lv (v.toList ++ rest) w2 Φ) : mW G M d kc ks pc lv (As.reverse ++ .ref b :: rest) w Φ :=
  mW_callVN hd hF hn hkd hc h16 hC hr hdd hk1 hk2 (fun E w' h => by cases h.1) (fun v' w' h => by obtain ⟨h1, h2⟩ := h; cases h1; subst h2; exact kk)
theorem mW_callSN {idx n : Nat} {host : String} (hd : decode M.2.1 pc = .ok (.invokestatic idx, 3)) (hF : mLinkSN M.1.cls idx n M' host) (hn : As.length = n) (hC : mC G M' d' kc' ks' As w Ψ) (hr : (rest.map fun v => v.category).sum ≤ 8) (hdd : d' + 1 ≤ d) (hk1 : kc' + kc2 = kc) (hk2 : ks' + ks2 = ks) (kx : ∀ E w', ¬ Ψ (.inr E) w') (kk : ∀ v w', Ψ (.inl v) w' → mW G M d kc2 ks2 (pc + 3) lv (v.toList ++ rest) w' Φ) : mW G M d kc ks pc lv (As.reverse ++ rest) w Φ := by
  intro p l e R s m args below meth c H locs cells slots mc ms ls X h1 h2 h3 h4 hS hP hl
  obtain ⟨hx, hb, hml, hrr, hlocks, hown, hnm, hts, hI, hlt, hxt, hdf, hdl⟩ := id X
  obtain ⟨hde, hco, hlk, hsta⟩ := hF
  subst hk1
  subst hk2
  have hR : d' + 1 ≤ R.frames ∧ 8 + (M'.2.2.1 + 11) + 100 * d' ≤ R.locals := ⟨by omega, by have := hco.2.2; omega⟩
  refine m_run (Ψ := Ψ) (kc' := kc') (ks' := ks') (rest := rest) (vx_runSN (Pc := mPc G As w) (As := As) (rest := rest) (n := n) (Ts := mTs) ⟨hx, hb, hml, hown, hts⟩ (hC l hlt) (⟨va_cnB n hts (mTs_good (mws_in hco)) rfl rfl rfl (va_Nw.of rfl (by have := hI.2.2.2.2.2.2.2 _ hlk rfl; exact va_Nw.use rfl this : (Cond.methodLinkNest M.1.cls idx M'.1 host).before args s = true)) (hts _ hco.2.1) hde hR, hts _ hsta, trivial⟩) ⟨mPc_blind, fun U hU hW => ⟨rfl, mInv_at hI hW hS hU, by rw [hU]; exact hP⟩⟩ rfl hn hl.1 rfl (lv_room hr) hd ⟨by omega, by omega⟩) X h1 h2 h3 h4 hS hl kx kk
theorem mW_callSNe {idx n : Nat} {host : String} {v : Option Value} (hd : decode M.2.1 pc = .ok (.invokestatic idx, 3)) (hF : mLinkSN M.1.cls idx n M' host) (hn : As.length = n) (hC : mC G M' d' kc' ks' As w (mEq (.inl v) w2)) (hr : (rest.map fun v => v.category).sum ≤ 8) (hdd : d' + 1 ≤ d) (hk1 : kc' + kc2 = kc) (hk2 : ks' + ks2 = ks) (kk : mW G M d kc2 ks2 (pc + 3) lv (v.toList ++ rest) w2 Φ) : mW G M d kc ks pc lv (As.reverse ++ rest) w Φ :=
  mW_callSN hd hF hn hC hr hdd hk1 hk2 (fun E w' h => by cases h.1) (fun v' w' h => by obtain ⟨h1, h2⟩ := h; cases h1; subst h2; exact kk)
theorem mW_callIN {idx n : Nat} {b : Nat} {host : String} (hd : decode M.2.1 pc = .ok (.invokespecial idx, 3)) (hF : mLinkIN M.1.cls idx n M' host) (hn : As.length = n) (hC : mC G M' d' kc' ks' (.ref b :: As) w Ψ) (hr : (rest.map fun v => v.category).sum ≤ 8) (hdd : d' + 1 ≤ d) (hk1 : kc' + kc2 = kc) (hk2 : ks' + ks2 = ks) (kx : ∀ E w', ¬ Ψ (.inr E) w') (kk : ∀ v w', Ψ (.inl v) w' → mW G M d kc2 ks2 (pc + 3) lv (v.toList ++ rest) w' Φ) : mW G M d kc ks pc lv (As.reverse ++ .ref b :: rest) w Φ := by
  intro p l e R s m args below meth c H locs cells slots mc ms ls X h1 h2 h3 h4 hS hP hl
  obtain ⟨hx, hb, hml, hrr, hlocks, hown, hnm, hts, hI, hlt, hxt, hdf, hdl⟩ := id X
  obtain ⟨hde, hco, hlk, hins, hini, hrn⟩ := hF
  subst hk1
  subst hk2
  have hR : d' + 1 ≤ R.frames ∧ 8 + (M'.2.2.1 + 11) + 100 * d' ≤ R.locals := ⟨by omega, by have := hco.2.2; omega⟩
  refine m_run (Ψ := Ψ) (kc' := kc') (ks' := ks') (rest := rest) (vx_runIN (Pc := mPc G (.ref b :: As) w) (As := As) (rest := rest) (n := n) (Ts := mTs) ⟨hx, hb, hml, hown, hts⟩ (hC l hlt) (⟨va_cnB n hts (mTs_good (mws_in hco)) (by unfold mws; rw [hrn]) rfl rfl (va_Nw.of rfl (by have := hI.2.2.2.2.2.2.2 _ hlk rfl; exact va_Nw.use rfl this : (Cond.methodLinkNest M.1.cls idx M'.1 host).before args s = true)) (hts _ hco.2.1) hde hR, hini, hts _ hins⟩) ⟨mPc_blind, fun U hU hW => ⟨rfl, mInv_at hI hW hS hU, by rw [hU]; exact hP⟩⟩ rfl hn hl.1 rfl (lv_room hr) hd ⟨by omega, by omega⟩) X h1 h2 h3 h4 hS hl kx kk
theorem mW_callINe {idx n : Nat} {b : Nat} {host : String} {v : Option Value} (hd : decode M.2.1 pc = .ok (.invokespecial idx, 3)) (hF : mLinkIN M.1.cls idx n M' host) (hn : As.length = n) (hC : mC G M' d' kc' ks' (.ref b :: As) w (mEq (.inl v) w2)) (hr : (rest.map fun v => v.category).sum ≤ 8) (hdd : d' + 1 ≤ d) (hk1 : kc' + kc2 = kc) (hk2 : ks' + ks2 = ks) (kk : mW G M d kc2 ks2 (pc + 3) lv (v.toList ++ rest) w2 Φ) : mW G M d kc ks pc lv (As.reverse ++ .ref b :: rest) w Φ :=
  mW_callIN hd hF hn hC hr hdd hk1 hk2 (fun E w' h => by cases h.1) (fun v' w' h => by obtain ⟨h1, h2⟩ := h; cases h1; subst h2; exact kk)
end MC
