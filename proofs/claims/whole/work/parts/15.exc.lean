/-! calls that may throw, into a method with handlers; methods with handlers -/
def mCH (G : mG) (M : mM) (d kc ks : Nat) (av : List Value) (w : mH) (Φ : mF) : Prop := ∀ l : Launch, l.stackTraces = false → vx_Met l M.1 (Cond.codeWith M.1 M.2.1 M.2.2.1 M.2.2.2.1 M.2.2.2.2 :: mTs) ({ frames := d, cells := kc, slots := ks, locals := 100 * d }) (mPc G av w) (mQc G Φ) (mXC G Φ) kc ks (mA G)
section MH
variable {G : mG} {M M' : mM} {d d' kc ks kc' ks' kc2 ks2 pc : Nat} {lv : List (Nat × Value)} {st rest As : List Value} {w w2 : mH} {Φ Ψ : mF}
theorem mCH_of {av : List Value} (hpl : plainName M.1.cls = true) (hn : (lg_sl av).length ≤ M.2.2.1) (hlv : lv_args 0 av = lv) (k : mW G M d kc ks 0 lv [] w Φ) : mCH G M d kc ks av w Φ := by
  intro l hl
  refine vx_ofWH (cc := M.2.1) (maxL := M.2.2.1) (ret := M.2.2.2.1) (hh := M.2.2.2.2) (ws' := mTs) hpl rfl ?_
  intro p e s m args below meth c s₁ B hml hP
  obtain ⟨rfl, hI, hPic⟩ := hP
  have hw0 := atoms_spec (ws := Cond.codeWith M.1 M.2.1 M.2.2.1 M.2.2.2.1 M.2.2.2.2 :: mTs) B.pre
  obtain ⟨m9, meth9, c9, hn9, g1, g2, g3, g4, g5, g6, g7, g8⟩ := Cond.codeWith_spec (hw0 _ List.mem_cons_self)
  have em : m9 = m := Option.some.inj (hn9.symm.trans B.named)
  subst em
  have X0 := Stand.of_body B
  have e1 : meth9 = meth := Option.some.inj (g1.symm.trans X0.method)
  subst e1
  have e2 : c9 = c := Option.some.inj (g2.symm.trans X0.code)
  subst e2
  have hX : mCtx G M p l (headSpec (Cond.codeWith M.1 M.2.1 M.2.2.1 M.2.2.2.1 M.2.2.2.2 :: mTs) ({ frames := d, cells := kc, slots := ks, locals := 100 * d })).room s m9 av.toArray meth9 c9 d := ⟨B.exec, B.bytes, hml, B.returns, B.notSynchronized, findClass_of_methodNamed B.named, (name_of_methodNamed B.named B.method).1, fun w hw => hw0 w (List.mem_cons_of_mem _ hw), hI, hl, fun _ => by rw [← g5, table_eq], Nat.le_refl _, Nat.le_refl _⟩
  rw [lg_entry_eq]
  exact k p l e _ s m9 _ below meth9 c9 s.heap [] 0 0 kc ks _ hX (by omega) (by omega) (Nat.le_refl _) (Nat.le_refl _) va_S.rf hPic (hlv ▸ lv_entry av hn)
/-- class E thrown at pc is caught at h -/
def mCatch (M : mM) (pc : Nat) (E : String) (h : Nat) : Prop := ∃ (pre suf : List (Nat × Nat × Nat × Nat)) (x : Nat × Nat × Nat × Nat) (nm : String), M.2.2.2.2 = pre ++ x :: suf ∧ (∀ z ∈ pre, z.2.2.2 ≠ 0 ∧ ∃ nm' : String, Cond.classLink M.1.cls z.2.2.2 nm' ∈ mTs ∧ (E, nm') ∈ mNcs) ∧ covers ⟨x.1, x.2.1, x.2.2.1, x.2.2.2⟩ pc = true ∧ x.2.2.2 ≠ 0 ∧ Cond.classLink M.1.cls x.2.2.2 nm ∈ mTs ∧ Cond.castable E nm ∈ lw_tbl ∧ x.2.2.1 = h ∧ M.2.2.2.2 ≠ mUnk
theorem m_runX {p : Program} {l : Launch} {e : Env} {R : Room} {s : State} {m : MethodId} {args : Array Value} {below : List Frame} {meth : Method} {c : Code} {H : Heap} {locs : List Loc} {cells slots mc ms : Nat} {ls : Array Slot} {st0 : List Value} {a : Array Value}
    (hr : vx_Run p l e R s m args below meth c H locs cells slots kc' ks' (F0 m pc ls st0) rest (mQc G Ψ a) (mXC G Ψ) (mA G)) (X : mCtx G M p l R s m args meth c d) (h1 : cells + (kc' + kc2) ≤ mc) (h2 : slots + (ks' + ks2) ≤ ms) (h3 : mc ≤ R.cells) (h4 : ms ≤ R.slots) (hS : va_S (mA G) s.heap H locs) (hl : lv_has ls M.2.2.1 lv)
    (kx : ∀ E w', Ψ (.inr E) w' → ∃ h, mCatch M pc E h ∧ ∀ q, mW G M d kc2 ks2 h lv [.ref q] w' Φ) (kk : ∀ v w', Ψ (.inl v) w' → mW G M d kc2 ks2 (pc + 3) lv (v.toList ++ rest) w' Φ) : W p l e R s m args below meth c H locs cells slots (vx_MQ below (mQc G Φ) (mXC G Φ) args s mc ms (mA G)) (F0 m pc ls st0) := by
  intro T hT Y
  have keep : ∀ (st₀ t T' : State) (L : List Loc), st₀.heap = H → T'.heap = t.heap → (∀ q ∈ L, mA G q.base) → va_F (mA G) st₀ t → va_S (mA G) s.heap T'.heap (locs ++ L) := fun st₀ t T' L e0 e1 hL hF => by
    refine ⟨?_, fun q g1 g2 => ?_, fun q hq => ?_⟩
    · rw [e1]
      have := hF.1
      rw [e0] at this
      exact Nat.le_trans hS.1 this
    · rw [e1, hF.2 q (by rw [e0]; exact Nat.lt_of_lt_of_le g1 hS.1) g2, e0]
      exact hS.2.1 q g1 g2
    · rcases List.mem_append.mp hq with h | h
      · exact hS.2.2 q h
      · exact hL q h
  rcases hr T hT Y with ⟨v, st₀, t, T', L, e0, Y', hL, e1, e2, ⟨v', w', hv, hΨ, hP', hF⟩, hgo⟩ | ⟨q, st₀, t, T', L, E, ce, e0, Y', hL, e1, e2, ⟨w', hΨ, hP', hF⟩, hce, hcv, hcl, hrest⟩
  · cases hv
    obtain ⟨tt, a1, b1⟩ := kk v w' hΨ p l e R s m args below meth c T'.heap (locs ++ L) (cells + kc') (slots + ks') mc ms ls X (by omega) (by omega) h3 h4 (keep st₀ t T' L e0 e1 hL hF) (by rw [e1]; exact hP') hl T' rfl Y'
    exact ⟨tt, hgo _ a1, b1⟩
  · obtain ⟨h, ⟨pre, suf, x, nm, c1, c2, c3, c4, c5, c6, c7, c8⟩, kq⟩ := kx E w' hΨ
    obtain ⟨hx, hb, hml, hrr, hlocks, hown, hnm, hts, hI, hlt, hxt, hdf, hdl⟩ := id X
    have hsp : c.exceptionTable.toList = pre.map (fun q => (⟨q.1, q.2.1, q.2.2.1, q.2.2.2⟩ : ExceptionTableEntry)) ++ ⟨x.1, x.2.1, x.2.2.1, x.2.2.2⟩ :: suf.map (fun q => (⟨q.1, q.2.1, q.2.2.1, q.2.2.2⟩ : ExceptionTableEntry)) := by
      rw [hxt c8, c1]
      simp [tableOf]
    have K := kq q p l e R s m args below meth c T'.heap (locs ++ L) (cells + kc') (slots + ks') mc ms ls X (by omega) (by omega) h3 h4 (keep st₀ t T' L e0 e1 hL hF) (by rw [e1]; exact hP') hl
    have hcat : (Cond.castable E nm).before args s = true := va_Nw.use rfl (hI.2.2.2.2.2.2.2 _ c6 rfl)
    obtain ⟨tt, a1, b1⟩ := vx_catch (rest := rest) (pc := pc) (ls := ls) hown _ _ _ hsp (fun z hz => by
      obtain ⟨y, hy, rfl⟩ := List.mem_map.mp hz
      obtain ⟨d1, nm', d2, d3⟩ := c2 y hy
      exact Or.inr ⟨d1, nm', hts _ d2, hI.2.2.2.1.2.2.2.2.2 _ d3⟩) c3 c4 (hts _ c5) hcat (by rw [e1]; exact hce) hcv hcl (by rw [← c7] at K; exact K) T' rfl Y'
    exact ⟨tt, hrest.trans a1, b1⟩
theorem mW_callVX {idx n : Nat} {b : Nat} (hd : decode M.2.1 pc = .ok (.invokevirtual idx, 3)) (hF : mLinkV M.1.cls idx n M') (hn : As.length = n) {ci : Nat} {T : u_T} {N : Nat} (hkd : hk w b = (ci, 0)) (hc : mCl[ci]? = some (M'.1.cls, T, N)) (h16 : ci < 16) (hC : mC G M' d' kc' ks' (.ref b :: As) w Ψ) (hr : (rest.map fun v => v.category).sum ≤ 8) (hdd : d' + 1 ≤ d) (hk1 : kc' + kc2 = kc) (hk2 : ks' + ks2 = ks) (kx : ∀ E w', Ψ (.inr E) w' → ∃ h, mCatch M pc E h ∧ ∀ q, mW G M d kc2 ks2 h lv [.ref q] w' Φ) (kk : ∀ v w', Ψ (.inl v) w' → mW G M d kc2 ks2 (pc + 3) lv (v.toList ++ rest) w' Φ) : mW G M d kc ks pc lv (As.reverse ++ .ref b :: rest) w Φ := by
  intro p l e R s m args below meth c H locs cells slots mc ms ls X h1 h2 h3 h4 hS hP hl
  obtain ⟨hx, hb, hml, hrr, hlocks, hown, hnm, hts, hI, hlt, hxt, hdf, hdl⟩ := id X
  obtain ⟨hde, hco, hlk, hins, hsel⟩ := hF
  subst hk1
  subst hk2
  have hR : d' + 1 ≤ R.frames ∧ 8 + (M'.2.2.1 + 11) + 100 * d' ≤ R.locals := ⟨by omega, by have := hco.2.2; omega⟩
  refine m_runX (Ψ := Ψ) (kc' := kc') (ks' := ks') (rest := rest) (vx_runV (Pc := mPc G (.ref b :: As) w) (As := As) (rest := rest) (n := n) (Ts := mTs) ⟨hx, hb, hml, hown, hts⟩ (hC l hlt) (cwV n hts (mTs_good (m_in4 hlk hins hsel hco.2.1 (mws_in hco))) rfl rfl rfl ⟨rfl, hde.1, hde.2.1, hde.2.2⟩ hR) ⟨mPc_blind, va_recv hI.1 (mPic_one hP (by rw [hkd]; show ci < 32; omega) (mE_ob hkd h16)) hc (q0 := 0) rfl, fun U hU hW => ⟨rfl, mInv_at hI hW hS hU, by rw [hU]; exact hP⟩⟩ rfl hn hl.1 rfl (lv_room hr) hd ⟨by omega, by omega⟩) X h1 h2 h3 h4 hS hl kx kk
def mLinkSH (own : String) (idx n : Nat) (M' : mM) : Prop := mDesc M'.1 n ∧ Cond.codeWith M'.1 M'.2.1 M'.2.2.1 M'.2.2.2.1 M'.2.2.2.2 ∈ mTs ∧ Cond.initialized M'.1.cls ∈ mTs ∧ M'.2.2.1 ≤ 80 ∧ Cond.methodLink own idx M'.1 ∈ mTs ∧ Cond.static M'.1 ∈ mTs
theorem mW_callSH {idx n : Nat} (hd : decode M.2.1 pc = .ok (.invokestatic idx, 3)) (hF : mLinkSH M.1.cls idx n M') (hn : As.length = n) (hC : mCH G M' d' kc' ks' As w Ψ) (hr : (rest.map fun v => v.category).sum ≤ 8) (hdd : d' + 1 ≤ d) (hk1 : kc' + kc2 = kc) (hk2 : ks' + ks2 = ks) (kx : ∀ E w', ¬ Ψ (.inr E) w') (kk : ∀ v w', Ψ (.inl v) w' → mW G M d kc2 ks2 (pc + 3) lv (v.toList ++ rest) w' Φ) : mW G M d kc ks pc lv (As.reverse ++ rest) w Φ := by
  intro p l e R s m args below meth c H locs cells slots mc ms ls X h1 h2 h3 h4 hS hP hl
  obtain ⟨hx, hb, hml, hrr, hlocks, hown, hnm, hts, hI, hlt, hxt, hdf, hdl⟩ := id X
  obtain ⟨hde, hco, hin, h80, hlk, hsta⟩ := hF
  subst hk1
  subst hk2
  have hR : d' + 1 ≤ R.frames ∧ 8 + (M'.2.2.1 + 11) + 100 * d' ≤ R.locals := ⟨by omega, by omega⟩
  have hws : ∀ w ∈ Cond.codeWith M'.1 M'.2.1 M'.2.2.1 M'.2.2.2.1 M'.2.2.2.2 :: mTs, w ∈ mTs := fun w hw => by
    rcases List.mem_cons.mp hw with rfl | hw
    · exact hco
    · exact hw
  exact m_run (Ψ := Ψ) (kc' := kc') (ks' := ks') (rest := rest) (vx_runSX (Pc := mPc G As w) (As := As) (rest := rest) (n := n) (Ts := mTs) ⟨hx, hb, hml, hown, hts⟩ (hC l hlt) (vx_cwSW n hts (mTs_good (m_in3 hlk hsta hin hws)) rfl rfl rfl ⟨hde.1, hde.2.1, hde.2.2⟩ hR) ⟨mPc_blind, fun U hU hW => ⟨rfl, mInv_at hI hW hS hU, by rw [hU]; exact hP⟩⟩ rfl hn hl.1 rfl (lv_room hr) hd ⟨by omega, by omega⟩) X h1 h2 h3 h4 hS hl kx kk
end MH
