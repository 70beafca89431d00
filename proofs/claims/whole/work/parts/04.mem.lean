/-! memory, ends, calls of the small machine -/
theorem va_at_kept {D : va_G} {cl : List vw_C} {q : Nat × va_E} {H H1 : Heap} (h : va_at D cl q H) (hq : H1[q.1]? = H[q.1]?) : va_at D cl q H1 := h.kept hq
theorem mOb_sfi_ne (w : mH) (a k : Nat) (v : Int32) {b : Nat} (h : b ≠ a) (c : Nat) : mOb (sfi w a k v) b c = mOb w b c := by unfold mOb; split <;> simp only [hfi_sfi, hfl_sfi, hfr_sfi, up2_a _ _ _ h]
theorem mE_sfi {G : mG} {w : mH} {a ci k : Nat} {v : Int32} (hkd : hk w a = (ci, 0)) (h16 : ci < 16) (hob : mOb (sfi w a k v) a ci = (mOb w a ci).set k (.int v)) : mE G (sfi w a k v) = va_up (mE G w) a (.inr (ci, (mOb w a ci).set k (.int v))) := by
  funext b
  by_cases h : b = a
  · subst h
    rw [va_up_self]
    simp only [mE, hk_sfi, hkd, h16, if_true, hob]
  · rw [va_up_ne _ _ h]
    simp only [mE, hk_sfi, mOb_sfi_ne _ _ _ _ h, mAr, hai_sfi, hal_sfi, har_sfi]
    rfl
theorem mOb_sfl_ne (w : mH) (a k : Nat) (v : Int64) {b : Nat} (h : b ≠ a) (c : Nat) : mOb (sfl w a k v) b c = mOb w b c := by unfold mOb; split <;> simp only [hfi_sfl, hfl_sfl, hfr_sfl, up2_a _ _ _ h]
theorem mE_sfl {G : mG} {w : mH} {a ci k : Nat} {v : Int64} (hkd : hk w a = (ci, 0)) (h16 : ci < 16) (hob : mOb (sfl w a k v) a ci = (mOb w a ci).set k (.long v)) : mE G (sfl w a k v) = va_up (mE G w) a (.inr (ci, (mOb w a ci).set k (.long v))) := by
  funext b
  by_cases h : b = a
  · subst h
    rw [va_up_self]
    simp only [mE, hk_sfl, hkd, h16, if_true, hob]
  · rw [va_up_ne _ _ h]
    simp only [mE, hk_sfl, mOb_sfl_ne _ _ _ _ h, mAr, hai_sfl, hal_sfl, har_sfl]
    rfl
theorem mOb_sfr_ne (w : mH) (a k : Nat) (v : Option Nat) {b : Nat} (h : b ≠ a) (c : Nat) : mOb (sfr w a k v) b c = mOb w b c := by unfold mOb; split <;> simp only [hfi_sfr, hfl_sfr, hfr_sfr, up2_a _ _ _ h]
theorem mE_sfr {G : mG} {w : mH} {a ci k : Nat} {v : Option Nat} (hkd : hk w a = (ci, 0)) (h16 : ci < 16) (hob : mOb (sfr w a k v) a ci = (mOb w a ci).set k (va_rf v)) : mE G (sfr w a k v) = va_up (mE G w) a (.inr (ci, (mOb w a ci).set k (va_rf v))) := by
  funext b
  by_cases h : b = a
  · subst h
    rw [va_up_self]
    simp only [mE, hk_sfr, hkd, h16, if_true, hob]
  · rw [va_up_ne _ _ h]
    simp only [mE, hk_sfr, mOb_sfr_ne _ _ _ _ h, mAr, hai_sfr, hal_sfr, har_sfr]
    rfl
theorem mE_sai {G : mG} {w : mH} {a kc n k : Nat} {v : Int32} (hkd : hk w a = (kc, n)) (h16 : 16 ≤ kc) (h17 : kc ≠ 17) (h21 : kc ≠ 21) : mE G (sai w a k v) = va_up (mE G w) a (.inl (G.2.2.1 (kc - 16), n, .inl (upd (hai w a) k v))) := by
  funext b
  by_cases h : b = a
  · subst h
    rw [va_up_self]
    simp only [mE, hk_sai, hkd, Nat.not_lt.mpr h16, if_false, mAr, h17, h21, hai_sai, up2_row]
  · rw [va_up_ne _ _ h]
    simp only [mE, hk_sai, mOb, hfi_sai, hfl_sai, hfr_sai, mAr, hai_sai, hal_sai, har_sai, up2_a _ _ _ h]
theorem mE_sax {G : mG} {w : mH} {a n : Nat} {g : Nat → Int32} (hkd : hk w a = (16, n)) : mE G (sax w a g) = va_up (mE G w) a (.inl (G.2.2.1 0, n, .inl g)) := by
  funext b
  by_cases h : b = a
  · subst h
    rw [va_up_self]
    simp [mE, hk_sax, hkd, mAr, hai_sax, va_up]
  · rw [va_up_ne _ _ h]
    simp only [mE, hk_sax, mOb, hfi_sax, hfl_sax, hfr_sax, mAr, hai_sax, hal_sax, har_sax, va_up_ne _ _ h]
theorem mE_sal {G : mG} {w : mH} {a n k : Nat} {v : Int64} (hkd : hk w a = (17, n)) : mE G (sal w a k v) = va_up (mE G w) a (.inl (G.2.2.1 1, n, .inr (.inl (vp_updL (hal w a) k v)))) := by
  funext b
  by_cases h : b = a
  · subst h
    rw [va_up_self]
    simp [mE, hk_sal, hkd, mAr, hal_sal, up2_rowL]
  · rw [va_up_ne _ _ h]
    simp only [mE, hk_sal, mOb, hfi_sal, hfl_sal, hfr_sal, mAr, hai_sal, hal_sal, har_sal, up2_a _ _ _ h]
    rfl
theorem mE_sar {G : mG} {w : mH} {a n k : Nat} {v : Option Nat} (hkd : hk w a = (21, n)) : mE G (sar w a k v) = va_up (mE G w) a (.inl (G.2.2.1 5, n, .inr (.inr (.inr (.inr (va_up (har w a) k v)))))) := by
  funext b
  by_cases h : b = a
  · subst h
    rw [va_up_self]
    simp [mE, hk_sar, hkd, mAr, har_sar, up2_rowR]
  · rw [va_up_ne _ _ h]
    simp only [mE, hk_sar, mOb, hfi_sar, hfl_sar, hfr_sar, mAr, hai_sar, hal_sar, har_sar, up2_a _ _ _ h]
theorem mPic_set {G : mG} {w w2 : mH} {H H1 : Heap} {a : Nat} {e : va_E} (hP : mPic G w H) (hN2 : hN w2 = hN w) (hk2 : hk w2 = hk w) (he : mE G w2 = va_up (mE G w) a e) (h1 : va_at G.2.1 mCl (a, e) H1) (hz : H1.size = H.size) (ho : ∀ q : Nat, q ≠ a → H1[q]? = H[q]?) : mPic G w2 H1 := by
  obtain ⟨p1, p2, p3, p4⟩ := hP
  refine ⟨fun b hb => ?_, fun b hb => ?_, ?_, ?_⟩
  · rw [hk2] at hb
    by_cases h : b = a
    · subst h
      rw [he, va_up_self]
      exact h1
    · rw [he, va_up_ne _ _ h]
      exact (p1 b hb).kept (ho b h)
  · rw [hk2] at hb
    rw [hN2]
    exact p2 b hb
  · rw [hz, hN2]
    exact p3
  · rw [hN2]
    exact p4
theorem mPic_one {G : mG} {w : mH} {H : Heap} {a : Nat} {e : va_E} (hP : mPic G w H) (hl : (hk w a).1 < 32) (he : mE G w a = e) : va_P G.2.1 mCl [(a, e)] H := by
  intro k q hq
  match k, hq with
  | 0, hq =>
    cases hq
    rw [← he]
    exact hP.1 a hl
  | k + 1, hq => simp at hq
theorem mE_ob {G : mG} {w : mH} {a ci : Nat} (hkd : hk w a = (ci, 0)) (h16 : ci < 16) : mE G w a = .inr (ci, mOb w a ci) := by simp only [mE, hkd, h16, if_true]
theorem mE_ai {G : mG} {w : mH} {a kc n : Nat} (hkd : hk w a = (kc, n)) (h16 : 16 ≤ kc) (h17 : kc ≠ 17) (h21 : kc ≠ 21) : mE G w a = .inl (G.2.2.1 (kc - 16), n, .inl (hai w a)) := by simp only [mE, hkd, Nat.not_lt.mpr h16, if_false, mAr, h17, h21]
theorem mE_al {G : mG} {w : mH} {a n : Nat} (hkd : hk w a = (17, n)) : mE G w a = .inl (G.2.2.1 1, n, .inr (.inl (hal w a))) := by simp [mE, hkd, mAr]
theorem mE_ar {G : mG} {w : mH} {a n : Nat} (hkd : hk w a = (21, n)) : mE G w a = .inl (G.2.2.1 5, n, .inr (.inr (.inr (.inr (har w a))))) := by simp [mE, hkd, mAr]
/-- what a field's use wants of the tables -/
def mFld (own : String) (idx ci k : Nat) : Prop := ∃ (C : String) (T : u_T) (N : Nat) (ref : String), mCl[ci]? = some (C, T, N) ∧ k < N ∧ (∀ w ∈ u_ws C T N, w ∈ mTs) ∧ Cond.fieldLink own idx ref (T k).2.1 (T k).2.2.1 ∈ mTs ∧ (ref = (T k).1 ∨ Cond.sameField ref (T k).1 (T k).2.1 (T k).2.2.1 ∈ mTs) ∧ ci < 16
def mPut (own : String) (idx ci k : Nat) (ty : FieldType) (fin : Bool) : Prop := ∃ (C : String) (T : u_T) (N : Nat) (ref : String) (tf : Nat → FieldType), mCl[ci]? = some (C, T, N) ∧ k < N ∧ (∀ w ∈ u_ws C T N, w ∈ mTs) ∧ Cond.fieldLink own idx ref (T k).2.1 (T k).2.2.1 ∈ mTs ∧ (ref = (T k).1 ∨ Cond.sameField ref (T k).1 (T k).2.1 (T k).2.2.1 ∈ mTs) ∧ ci < 16 ∧ (∀ k, k < N → parseFieldDescriptor (T k).2.2.1 = some (tf k)) ∧ (∀ a, a < N → ∀ b, b < N → a ≠ b → (T a).2.1 ≠ (T b).2.1) ∧ parseFieldDescriptor (T k).2.2.1 = some ty ∧ (T k).2.2.2 = fin ∧ (fin = true → (T k).1 = own)
theorem m_same {s : State} {args : Array Value} {ref own n d : String} (hts : ∀ w ∈ mTs, w.before args s = true) (h : ref = own ∨ Cond.sameField ref own n d ∈ mTs) : ∀ x, s.fieldFound? own n d = some x → s.fieldFound? ref n d = some x := by
  rcases h with rfl | h
  · exact fun _ h => h
  · exact fun x hx => u_same (hts _ h) x hx
section MM
variable {G : mG} {M : mM} {d kc ks pc pc2 : Nat} {lv lv2 : List (Nat × Value)} {st st2 : List Value} {w : mH} {Φ : mF}
theorem mW_get {a idx ci k : Nat} {v : Value} (hd : decode M.2.1 pc = .ok (.getfield idx, 3)) (hF : mFld M.1.cls idx ci k) (hkd : hk w a = (ci, 0)) (hv : (mOb w a ci)[k]? = some v) (kk : mW G M d kc ks (pc + 3) lv (v :: st) w Φ) : mW G M d kc ks pc lv (.ref a :: st) w Φ := by
  intro p l e R s m args below meth c H locs cells slots mc ms ls X h1 h2 h3 h4 hS hP hl
  obtain ⟨C, T, N, ref, hc, hkN, hin, hlk, hsm, h16⟩ := hF
  have hts := X.2.2.2.2.2.2.2.1
  have hI := X.2.2.2.2.2.2.2.2.1
  exact va_get X.1 X.2.1 hts hin X.2.2.2.2.2.1 hI.1 (mPic_one hP (by rw [hkd]; show ci < 32; omega) (mE_ob hkd h16)) 0 rfl hc k hkN (hts _ hlk) (m_same hts hsm) hv hd (kk p l e R s m args below meth c H locs cells slots mc ms ls X h1 h2 h3 h4 hS hP hl)
theorem mW_put {a idx ci k : Nat} {v : Value} {ty : FieldType} {w2 : mH} (hd : decode M.2.1 pc = .ok (.putfield idx, 3)) (hF : mPut M.1.cls idx ci k ty false) (hkd : hk w a = (ci, 0)) (hlen : k < (mOb w a ci).length) (hn : narrow ty v = v) (hfit : fits ty v = true) (hN2 : hN w2 = hN w) (hk2 : hk w2 = hk w) (he : mE G w2 = va_up (mE G w) a (.inr (ci, (mOb w a ci).set k v))) (kk : mW G M d kc ks (pc + 3) lv st w2 Φ) : mW G M d kc ks pc lv (v :: .ref a :: st) w Φ := by
  intro p l e R s m args below meth c H locs cells slots mc ms ls X h1 h2 h3 h4 hS hP hl
  obtain ⟨C, T, N, ref, tf, hc, hkN, hin, hlk, hsm, h16, hty, hnm, hpt, hfin, -⟩ := hF
  have hts := X.2.2.2.2.2.2.2.1
  have hI := X.2.2.2.2.2.2.2.2.1
  have hown := X.2.2.2.2.2.1
  have hap := va_apart (own := M.1.cls) hts hin tf hty hnm hI.1 hc
  have hl32 : (hk w a).1 < 32 := by rw [hkd]; show ci < 32; omega
  obtain ⟨r, g1, cell, q1, q2, q3, q4⟩ := mPic_one hP hl32 (mE_ob (G := G) hkd h16) 0 _ rfl
  have hr : r = (C, T, N) := Option.some.inj (g1.symm.trans hc)
  subst hr
  obtain ⟨hSl, hfc, kC, hkC, hkind⟩ := hI.1.1 ci _ hc
  obtain ⟨cf, kf, fi, f, hi, hsl⟩ := hSl k hkN
  have hlay := hts _ (hin _ (u_in_lay hkN))
  unfold u_lay at hlay
  rw [if_neg (by rw [hfin]; decide)] at hlay
  have hst := (u_facts hfc hkC (u_lays hts hin hkN) hi).1
  have h6 := u_store hfc hkC hkind hlay hi hpt hn hfit
  refine W.putK X.1 X.2.1 (f := f) ⟨hown, hts _ hlk, ⟨_, _, _, m_same hts hsm _ hi⟩, hst⟩ (by rw [q2]; exact h6) q1 q3 (by rw [hsl]; exact k2_hasslot (q4 k hkN)) rfl rfl hd fun H' e1 e2 e3 => ?_
  rw [hsl] at e1 ⊢
  exact kk p l e R s m args below meth c H' _ cells slots mc ms ls X h1 h2 h3 h4 (hS.put e2 e3 (hP.2.1 a hl32).1) (mPic_set hP hN2 hk2 he ⟨_, hc, t_OB.to (V := updV (vp_V (mOb w a ci)) k v) ⟨_, e1, q2, q3, t_set q4 hap hkN v⟩ (fun j _ => vp_updV_set hlen v j)⟩ e2 e3) hl
theorem mW_putF {a idx ci k : Nat} {v : Value} {ty : FieldType} {w2 : mH} (hd : decode M.2.1 pc = .ok (.putfield idx, 3)) (hF : mPut M.1.cls idx ci k ty true) (hmi : M.1.name = "<init>") (hkd : hk w a = (ci, 0)) (hlen : k < (mOb w a ci).length) (hn : narrow ty v = v) (hfit : fits ty v = true) (hN2 : hN w2 = hN w) (hk2 : hk w2 = hk w) (he : mE G w2 = va_up (mE G w) a (.inr (ci, (mOb w a ci).set k v))) (kk : mW G M d kc ks (pc + 3) lv st w2 Φ) : mW G M d kc ks pc lv (v :: .ref a :: st) w Φ := by
  intro p l e R s m args below meth c H locs cells slots mc ms ls X h1 h2 h3 h4 hS hP hl
  obtain ⟨C, T, N, ref, tf, hc, hkN, hin, hlk, hsm, h16, hty, hnm, hpt, hfin, hdecl⟩ := hF
  have hts := X.2.2.2.2.2.2.2.1
  have hI := X.2.2.2.2.2.2.2.2.1
  have hown := X.2.2.2.2.2.1
  have hin2 : meth.name = "<init>" := X.2.2.2.2.2.2.1.trans hmi
  have hap := va_apart (own := M.1.cls) hts hin tf hty hnm hI.1 hc
  have hl32 : (hk w a).1 < 32 := by rw [hkd]; show ci < 32; omega
  obtain ⟨r, g1, cell, q1, q2, q3, q4⟩ := mPic_one hP hl32 (mE_ob (G := G) hkd h16) 0 _ rfl
  have hr : r = (C, T, N) := Option.some.inj (g1.symm.trans hc)
  subst hr
  obtain ⟨hSl, hfc, kC, hkC, hkind⟩ := hI.1.1 ci _ hc
  obtain ⟨cf, kf, fi, f, hi, hsl⟩ := hSl k hkN
  have hlay := hts _ (hin _ (u_in_lay hkN))
  unfold u_lay at hlay
  rw [if_pos hfin] at hlay
  have hst := (u_facts hfc hkC (u_lays hts hin hkN) hi).1
  have hcf : m.cls = cf := by
    obtain ⟨_, _, c', _, _, _, -, -, hf', -, -, -, hown2, -⟩ := Cond.laysFinal_spec hlay
    have e1 : c' = cf := by have := hi.symm.trans hf'; simp at this; exact this.1.symm
    rw [hdecl rfl] at hown2
    rw [← e1]; exact Option.some.inj (hown.symm.trans hown2)
  have h6 := u_fits hfc hkC hkind (Or.inr hlay) hi hpt hn hfit
  refine W.putFinK X.1 X.2.1 hown (hts _ hlk) (m_same hts hsm _ hi) hst hcf hin2 (by rw [q2]; exact h6) q1 q3 (by rw [hsl]; exact k2_hasslot (q4 k hkN)) rfl rfl hd fun H' e1 e2 e3 => ?_
  rw [hsl] at e1 ⊢
  exact kk p l e R s m args below meth c H' _ cells slots mc ms ls X h1 h2 h3 h4 (hS.put e2 e3 (hP.2.1 a hl32).1) (mPic_set hP hN2 hk2 he ⟨_, hc, t_OB.to (V := updV (vp_V (mOb w a ci)) k v) ⟨_, e1, q2, q3, t_set q4 hap hkN v⟩ (fun j _ => vp_updV_set hlen v j)⟩ e2 e3) hl
theorem mW_iald {a n : Nat} {i : Int32} (hd : decode M.2.1 pc = .ok (.iaload, 1)) (hkd : hk w a = (16, n)) (hin : vp_in i n) (kk : mW G M d kc ks (pc + 1) lv (.int (hai w a i.toNatClampNeg) :: st) w Φ) : mW G M d kc ks pc lv (.int i :: .ref a :: st) w Φ := by
  intro p l e R s m args below meth c H locs cells slots mc ms ls X h1 h2 h3 h4 hS hP hl
  have hI := X.2.2.2.2.2.2.2.2.1
  exact va_iald X.1 X.2.1 hI.1 (mPic_one hP (by rw [hkd]; show 16 < 32; omega) (mE_ai hkd (by decide) (by decide) (by decide))) 0 0 rfl rfl hin hd (kk p l e R s m args below meth c H locs cells slots mc ms ls X h1 h2 h3 h4 hS hP hl)
theorem mW_cald {a n : Nat} {i : Int32} (hd : decode M.2.1 pc = .ok (.caload, 1)) (hkd : hk w a = (18, n)) (hin : vp_in i n) (kk : mW G M d kc ks (pc + 1) lv (.int (hai w a i.toNatClampNeg) :: st) w Φ) : mW G M d kc ks pc lv (.int i :: .ref a :: st) w Φ := by
  intro p l e R s m args below meth c H locs cells slots mc ms ls X h1 h2 h3 h4 hS hP hl
  have hI := X.2.2.2.2.2.2.2.2.1
  exact va_cald X.1 X.2.1 hI.1 (mPic_one hP (by rw [hkd]; show 18 < 32; omega) (mE_ai hkd (by decide) (by decide) (by decide))) 0 2 rfl rfl hin hd (kk p l e R s m args below meth c H locs cells slots mc ms ls X h1 h2 h3 h4 hS hP hl)
theorem mW_bald {a n : Nat} {i : Int32} (hd : decode M.2.1 pc = .ok (.baload, 1)) (hkd : hk w a = (19, n)) (hin : vp_in i n) (kk : mW G M d kc ks (pc + 1) lv (.int (hai w a i.toNatClampNeg) :: st) w Φ) : mW G M d kc ks pc lv (.int i :: .ref a :: st) w Φ := by
  intro p l e R s m args below meth c H locs cells slots mc ms ls X h1 h2 h3 h4 hS hP hl
  have hI := X.2.2.2.2.2.2.2.2.1
  exact va_bald X.1 X.2.1 hI.1 (mPic_one hP (by rw [hkd]; show 19 < 32; omega) (mE_ai hkd (by decide) (by decide) (by decide))) 0 3 rfl rfl hin hd (kk p l e R s m args below meth c H locs cells slots mc ms ls X h1 h2 h3 h4 hS hP hl)
theorem mW_zald {a n : Nat} {i : Int32} (hd : decode M.2.1 pc = .ok (.baload, 1)) (hkd : hk w a = (20, n)) (hin : vp_in i n) (kk : mW G M d kc ks (pc + 1) lv (.int (hai w a i.toNatClampNeg) :: st) w Φ) : mW G M d kc ks pc lv (.int i :: .ref a :: st) w Φ := by
  intro p l e R s m args below meth c H locs cells slots mc ms ls X h1 h2 h3 h4 hS hP hl
  have hI := X.2.2.2.2.2.2.2.2.1
  exact va_zald X.1 X.2.1 hI.1 (mPic_one hP (by rw [hkd]; show 20 < 32; omega) (mE_ai hkd (by decide) (by decide) (by decide))) 0 4 rfl rfl hin hd (kk p l e R s m args below meth c H locs cells slots mc ms ls X h1 h2 h3 h4 hS hP hl)
theorem mW_lald {a n : Nat} {i : Int32} (hd : decode M.2.1 pc = .ok (.laload, 1)) (hkd : hk w a = (17, n)) (hin : vp_in i n) (kk : mW G M d kc ks (pc + 1) lv (.long (hal w a i.toNatClampNeg) :: st) w Φ) : mW G M d kc ks pc lv (.int i :: .ref a :: st) w Φ := by
  intro p l e R s m args below meth c H locs cells slots mc ms ls X h1 h2 h3 h4 hS hP hl
  have hI := X.2.2.2.2.2.2.2.2.1
  exact va_lald X.1 X.2.1 hI.1 (mPic_one hP (by rw [hkd]; show 17 < 32; omega) (mE_al hkd)) 0 1 rfl rfl hin hd (kk p l e R s m args below meth c H locs cells slots mc ms ls X h1 h2 h3 h4 hS hP hl)
theorem mW_aald {a n : Nat} {i : Int32} (hd : decode M.2.1 pc = .ok (.aaload, 1)) (hkd : hk w a = (21, n)) (hin : vp_in i n) (kk : mW G M d kc ks (pc + 1) lv (va_rf (har w a i.toNatClampNeg) :: st) w Φ) : mW G M d kc ks pc lv (.int i :: .ref a :: st) w Φ := by
  intro p l e R s m args below meth c H locs cells slots mc ms ls X h1 h2 h3 h4 hS hP hl
  have hI := X.2.2.2.2.2.2.2.2.1
  exact va_aldq X.1 X.2.1 hI.1 (mPic_one hP (by rw [hkd]; show 21 < 32; omega) (mE_ar hkd)) 0 5 rfl rfl hin hd (kk p l e R s m args below meth c H locs cells slots mc ms ls X h1 h2 h3 h4 hS hP hl)
theorem mW_iast {a n : Nat} {i x : Int32} (hd : decode M.2.1 pc = .ok (.iastore, 1)) (hkd : hk w a = (16, n)) (hin : vp_in i n) (kk : mW G M d kc ks (pc + 1) lv st (sai w a i.toNatClampNeg x) Φ) : mW G M d kc ks pc lv (.int x :: .int i :: .ref a :: st) w Φ := by
  intro p l e R s m args below meth c H locs cells slots mc ms ls X h1 h2 h3 h4 hS hP hl
  have hI := X.2.2.2.2.2.2.2.2.1
  have hl32 : (hk w a).1 < 32 := by rw [hkd]; show 16 < 32; omega
  have hP1 := mPic_one hP hl32 (mE_ai (G := G) hkd (by decide) (by decide) (by decide))
  refine W.iast X.1 X.2.1 (hP1 0 _ rfl) ((hI.1.2 0 _ rfl).1 n (fun j => .int (hai w a j))) (fun q => by cases q) (by show ¬ (i < 0 ∨ (arrV _ _ _).slots.size ≤ _); rw [arrV_size]; exact hin) rfl rfl hd fun H1 e1 z oq => ?_
  refine kk p l e R s m args below meth c H1 _ cells slots mc ms ls X h1 h2 h3 h4 (hS.put z oq (hP.2.1 a hl32).1) (mPic_set hP rfl rfl (mE_sai hkd (by decide) (by decide) (by decide)) ?_ z oq) hl
  show H1[a]? = some (vp_cell _ _)
  rw [e1, vp_cell_i, vp_cell_i, arrV_store]
  congr 2
  funext q
  by_cases hq : q = i.toNatClampNeg
  · subst hq
    simp [updV, upd, vp_nar]
    try rfl
  · simp [updV, upd, hq]
theorem mW_cast {a n : Nat} {i x : Int32} (hd : decode M.2.1 pc = .ok (.castore, 1)) (hkd : hk w a = (18, n)) (hin : vp_in i n) (kk : mW G M d kc ks (pc + 1) lv st (sai w a i.toNatClampNeg (vp_nar .char x)) Φ) : mW G M d kc ks pc lv (.int x :: .int i :: .ref a :: st) w Φ := by
  intro p l e R s m args below meth c H locs cells slots mc ms ls X h1 h2 h3 h4 hS hP hl
  have hI := X.2.2.2.2.2.2.2.2.1
  have hl32 : (hk w a).1 < 32 := by rw [hkd]; show 18 < 32; omega
  have hP1 := mPic_one hP hl32 (mE_ai (G := G) hkd (by decide) (by decide) (by decide))
  refine W.cast X.1 X.2.1 (hP1 0 _ rfl) ((hI.1.2 2 _ rfl).1 n (fun j => .int (hai w a j))) (fun q => by cases q) (by show ¬ (i < 0 ∨ (arrV _ _ _).slots.size ≤ _); rw [arrV_size]; exact hin) rfl rfl hd fun H1 e1 z oq => ?_
  refine kk p l e R s m args below meth c H1 _ cells slots mc ms ls X h1 h2 h3 h4 (hS.put z oq (hP.2.1 a hl32).1) (mPic_set hP rfl rfl (mE_sai hkd (by decide) (by decide) (by decide)) ?_ z oq) hl
  show H1[a]? = some (vp_cell _ _)
  rw [e1, vp_cell_i, vp_cell_i, arrV_store]
  congr 2
  funext q
  by_cases hq : q = i.toNatClampNeg
  · subst hq
    simp [updV, upd, vp_nar]
    try rfl
  · simp [updV, upd, hq]
theorem mW_bast {a n : Nat} {i x : Int32} (hd : decode M.2.1 pc = .ok (.bastore, 1)) (hkd : hk w a = (19, n)) (hin : vp_in i n) (kk : mW G M d kc ks (pc + 1) lv st (sai w a i.toNatClampNeg (vp_nar .byte x)) Φ) : mW G M d kc ks pc lv (.int x :: .int i :: .ref a :: st) w Φ := by
  intro p l e R s m args below meth c H locs cells slots mc ms ls X h1 h2 h3 h4 hS hP hl
  have hI := X.2.2.2.2.2.2.2.2.1
  have hl32 : (hk w a).1 < 32 := by rw [hkd]; show 19 < 32; omega
  have hP1 := mPic_one hP hl32 (mE_ai (G := G) hkd (by decide) (by decide) (by decide))
  refine W.bast X.1 X.2.1 (hP1 0 _ rfl) ((hI.1.2 3 _ rfl).1 n (fun j => .int (hai w a j))) (fun q => by cases q) (by show ¬ (i < 0 ∨ (arrV _ _ _).slots.size ≤ _); rw [arrV_size]; exact hin) rfl rfl hd fun H1 e1 z oq => ?_
  refine kk p l e R s m args below meth c H1 _ cells slots mc ms ls X h1 h2 h3 h4 (hS.put z oq (hP.2.1 a hl32).1) (mPic_set hP rfl rfl (mE_sai hkd (by decide) (by decide) (by decide)) ?_ z oq) hl
  show H1[a]? = some (vp_cell _ _)
  rw [e1, vp_cell_i, vp_cell_i, arrV_store]
  congr 2
  funext q
  by_cases hq : q = i.toNatClampNeg
  · subst hq
    simp [updV, upd, vp_nar]
    try rfl
  · simp [updV, upd, hq]
theorem mW_zast {a n : Nat} {i x : Int32} (hd : decode M.2.1 pc = .ok (.bastore, 1)) (hkd : hk w a = (20, n)) (hin : vp_in i n) (kk : mW G M d kc ks (pc + 1) lv st (sai w a i.toNatClampNeg (vp_nar .boolean x)) Φ) : mW G M d kc ks pc lv (.int x :: .int i :: .ref a :: st) w Φ := by
  intro p l e R s m args below meth c H locs cells slots mc ms ls X h1 h2 h3 h4 hS hP hl
  have hI := X.2.2.2.2.2.2.2.2.1
  have hl32 : (hk w a).1 < 32 := by rw [hkd]; show 20 < 32; omega
  have hP1 := mPic_one hP hl32 (mE_ai (G := G) hkd (by decide) (by decide) (by decide))
  refine W.zast X.1 X.2.1 (hP1 0 _ rfl) ((hI.1.2 4 _ rfl).1 n (fun j => .int (hai w a j))) (fun q => by cases q) (by show ¬ (i < 0 ∨ (arrV _ _ _).slots.size ≤ _); rw [arrV_size]; exact hin) rfl rfl hd fun H1 e1 z oq => ?_
  refine kk p l e R s m args below meth c H1 _ cells slots mc ms ls X h1 h2 h3 h4 (hS.put z oq (hP.2.1 a hl32).1) (mPic_set hP rfl rfl (mE_sai hkd (by decide) (by decide) (by decide)) ?_ z oq) hl
  show H1[a]? = some (vp_cell _ _)
  rw [e1, vp_cell_i, vp_cell_i, arrV_store]
  congr 2
  funext q
  by_cases hq : q = i.toNatClampNeg
  · subst hq
    simp [updV, upd, vp_nar]
    try rfl
  · simp [updV, upd, hq]
theorem mW_last {a n : Nat} {i : Int32} {x : Int64} (hd : decode M.2.1 pc = .ok (.lastore, 1)) (hkd : hk w a = (17, n)) (hin : vp_in i n) (kk : mW G M d kc ks (pc + 1) lv st (sal w a i.toNatClampNeg x) Φ) : mW G M d kc ks pc lv (.long x :: .int i :: .ref a :: st) w Φ := by
  intro p l e R s m args below meth c H locs cells slots mc ms ls X h1 h2 h3 h4 hS hP hl
  have hI := X.2.2.2.2.2.2.2.2.1
  have hl32 : (hk w a).1 < 32 := by rw [hkd]; show 17 < 32; omega
  have hP1 := mPic_one hP hl32 (mE_al (G := G) hkd)
  refine W.last X.1 X.2.1 (hP1 0 _ rfl) ((hI.1.2 1 _ rfl).1 n (fun j => .long (hal w a j))) (fun q => by cases q) (by show ¬ (i < 0 ∨ (arrV _ _ _).slots.size ≤ _); rw [arrV_size]; exact hin) rfl rfl hd fun H1 e1 z oq => ?_
  refine kk p l e R s m args below meth c H1 _ cells slots mc ms ls X h1 h2 h3 h4 (hS.put z oq (hP.2.1 a hl32).1) (mPic_set hP rfl rfl (mE_sal hkd) ?_ z oq) hl
  show H1[a]? = some (vp_cell _ _)
  rw [e1, vp_cell_l, vp_cell_l, arrV_store]
  congr 2
  funext q
  by_cases hq : q = i.toNatClampNeg
  · subst hq
    simp [updV, vp_updL]
  · simp [updV, vp_updL, hq]
theorem mW_alen {a n kd : Nat} (hd : decode M.2.1 pc = .ok (.arraylength, 1)) (hkd : hk w a = (kd, n)) (h16 : 16 ≤ kd) (h22 : kd < 21) (h17 : kd ≠ 17) (kk : mW G M d kc ks (pc + 1) lv (.int (nI n) :: st) w Φ) : mW G M d kc ks pc lv (.ref a :: st) w Φ := by
  intro p l e R s m args below meth c H locs cells slots mc ms ls X h1 h2 h3 h4 hS hP hl
  have hI := X.2.2.2.2.2.2.2.2.1
  have hl32 : (hk w a).1 < 32 := by rw [hkd]; show kd < 32; omega
  have hP1 := mPic_one hP hl32 (mE_ai (G := G) hkd h16 h17 (by omega)) 0 _ rfl
  have hty : ∃ ty, ArrOfT s (G.2.2.1 (kd - 16)) ty := by
    rcases (show kd = 16 ∨ kd = 18 ∨ kd = 19 ∨ kd = 20 by omega) with rfl | rfl | rfl | rfl
    · exact ⟨_, (hI.1.2 0 _ rfl).1⟩
    · exact ⟨_, (hI.1.2 2 _ rfl).1⟩
    · exact ⟨_, (hI.1.2 3 _ rfl).1⟩
    · exact ⟨_, (hI.1.2 4 _ rfl).1⟩
  obtain ⟨ty, hA⟩ := hty
  exact W.alen (n := nI n) X.1 X.2.1 hP1 (hA n (fun j => .int (hai w a j))) (by show (arrV _ _ _).slots.size.toInt32 = _; rw [arrV_size]; rfl) rfl rfl hd (kk p l e R s m args below meth c H locs cells slots mc ms ls X h1 h2 h3 h4 hS hP hl)
theorem mW_gets {i idx : Nat} {ref : String} (hd : decode M.2.1 pc = .ok (.getstatic idx, 3)) (hi : i < 5) (hlk : Cond.fieldLink M.1.cls idx (mSn i).1 (mSn i).2.1 (mSn i).2.2 ∈ mTs) (kk : ∀ t : Nat, (∀ p : State → Prop, True) → t = G.2.2.2 i → mW G M d kc ks (pc + 3) lv (.ref t :: st) w Φ) : mW G M d kc ks pc lv st w Φ := by
  intro p l e R s m args below meth c H locs cells slots mc ms ls X h1 h2 h3 h4 hS hP hl
  have hts := X.2.2.2.2.2.2.2.1
  have hI := X.2.2.2.2.2.2.2.2.1
  exact va_gets X.1 X.2.1 (hI.2.2.1 i hi).1 hS X.2.2.2.2.2.1 (hts _ hlk) (fun _ h => h) hd (kk _ (fun _ => trivial) rfl p l e R s m args below meth c H locs cells slots mc ms ls X h1 h2 h3 h4 hS hP hl)
theorem mW_sald {i : Nat} {j : Int32} (hd : decode M.2.1 pc = .ok (.iaload, 1)) (hi : i < 3) (hin : vp_in j 15) (kk : mW G M d kc ks (pc + 1) lv (.int ((mSv i).getD j.toNatClampNeg 0) :: st) w Φ) : mW G M d kc ks pc lv (.int j :: .ref (G.2.2.2 i) :: st) w Φ := by
  intro p l e R s m args below meth c H locs cells slots mc ms ls X h1 h2 h3 h4 hS hP hl
  have hI := X.2.2.2.2.2.2.2.2.1
  have hT := (hI.2.2.1 i (by omega)).2
  rcases (show i = 0 ∨ i = 1 ∨ i = 2 by omega) with rfl | rfl | rfl
  · exact va_ti X.1 X.2.1 hT hS hin rfl hd (kk p l e R s m args below meth c H locs cells slots mc ms ls X h1 h2 h3 h4 hS hP hl)
  · exact va_ti X.1 X.2.1 hT hS hin rfl hd (kk p l e R s m args below meth c H locs cells slots mc ms ls X h1 h2 h3 h4 hS hP hl)
  · exact va_ti X.1 X.2.1 hT hS hin rfl hd (kk p l e R s m args below meth c H locs cells slots mc ms ls X h1 h2 h3 h4 hS hP hl)
/-! ends -/
theorem mW_iret {v : Int32} (hd : decode M.2.1 pc = .ok (.ireturn, 1)) (hr : M.2.2.2.1 = some .int) (kk : Φ (.inl (some (.int v))) w) : mW G M d kc ks pc lv [.int v] w Φ := by
  intro p l e R s m args below meth c H locs cells slots mc ms ls X h1 h2 h3 h4 hS hP hl
  refine W.widen (k := mc) (n := ms) (by omega) (by omega) ?_
  have hrr := X.2.2.2.1
  have hlk := X.2.2.2.2.1
  exact vx_ret (W.iret X.1 X.2.1 (hrr.trans hr) (fun t ht hW => ⟨_, w, rfl, kk, by rw [ht]; exact hP, hS.F ht⟩) hS.2.2 hd hlk)
theorem mW_zret {v : Int32} {ty : FieldType} (hd : decode M.2.1 pc = .ok (.ireturn, 1)) (hr : M.2.2.2.1 = some ty) (hn : narrow ty (.int v) = .int v) (kk : Φ (.inl (some (.int v))) w) : mW G M d kc ks pc lv [.int v] w Φ := by
  intro p l e R s m args below meth c H locs cells slots mc ms ls X h1 h2 h3 h4 hS hP hl
  refine W.widen (k := mc) (n := ms) (by omega) (by omega) ?_
  have hrr := X.2.2.2.1
  have hlk := X.2.2.2.2.1
  exact vx_ret (W.zret X.1 X.2.1 (hrr.trans hr) hn (fun t ht hW => ⟨_, w, rfl, kk, by rw [ht]; exact hP, hS.F ht⟩) hS.2.2 hd hlk)
theorem mW_lret {v : Int64} (hd : decode M.2.1 pc = .ok (.lreturn, 1)) (hr : M.2.2.2.1 = some .long) (kk : Φ (.inl (some (.long v))) w) : mW G M d kc ks pc lv [.long v] w Φ := by
  intro p l e R s m args below meth c H locs cells slots mc ms ls X h1 h2 h3 h4 hS hP hl
  refine W.widen (k := mc) (n := ms) (by omega) (by omega) ?_
  have hrr := X.2.2.2.1
  have hlk := X.2.2.2.2.1
  exact vx_ret (W.lret X.1 X.2.1 (hrr.trans hr) (fun t ht hW => ⟨_, w, rfl, kk, by rw [ht]; exact hP, hS.F ht⟩) hS.2.2 hd hlk)
theorem mW_fret {v : UInt32} (hd : decode M.2.1 pc = .ok (.freturn, 1)) (hr : M.2.2.2.1 = some .float) (kk : Φ (.inl (some (.float v))) w) : mW G M d kc ks pc lv [.float v] w Φ := by
  intro p l e R s m args below meth c H locs cells slots mc ms ls X h1 h2 h3 h4 hS hP hl
  refine W.widen (k := mc) (n := ms) (by omega) (by omega) ?_
  have hrr := X.2.2.2.1
  have hlk := X.2.2.2.2.1
  exact vx_ret (W.fret X.1 X.2.1 (hrr.trans hr) (fun t ht hW => ⟨_, w, rfl, kk, by rw [ht]; exact hP, hS.F ht⟩) hS.2.2 hd hlk)
theorem mW_dret {v : UInt64} (hd : decode M.2.1 pc = .ok (.dreturn, 1)) (hr : M.2.2.2.1 = some .double) (kk : Φ (.inl (some (.double v))) w) : mW G M d kc ks pc lv [.double v] w Φ := by
  intro p l e R s m args below meth c H locs cells slots mc ms ls X h1 h2 h3 h4 hS hP hl
  refine W.widen (k := mc) (n := ms) (by omega) (by omega) ?_
  have hrr := X.2.2.2.1
  have hlk := X.2.2.2.2.1
  exact vx_ret (W.dret X.1 X.2.1 (hrr.trans hr) (fun t ht hW => ⟨_, w, rfl, kk, by rw [ht]; exact hP, hS.F ht⟩) hS.2.2 hd hlk)
theorem mW_vret  (hd : decode M.2.1 pc = .ok (.return_, 1)) (hr : M.2.2.2.1 = none) (kk : Φ (.inl (none)) w) : mW G M d kc ks pc lv [] w Φ := by
  intro p l e R s m args below meth c H locs cells slots mc ms ls X h1 h2 h3 h4 hS hP hl
  refine W.widen (k := mc) (n := ms) (by omega) (by omega) ?_
  have hrr := X.2.2.2.1
  have hlk := X.2.2.2.2.1
  exact vx_ret (W.vret X.1 X.2.1 (hrr.trans hr) (fun t ht hW => ⟨_, w, rfl, kk, by rw [ht]; exact hP, hS.F ht⟩) hS.2.2 hd hlk)
theorem mW_aret {v : Value} {ty : FieldType} (hd : decode M.2.1 pc = .ok (.areturn, 1)) (hr : M.2.2.2.1 = some ty) (hrt : (∃ n, ty = .object n) ∨ ∃ t, ty = .array t) (hv : v = .null ∨ ∃ a, v = .ref a) (kk : Φ (.inl (some v)) w) : mW G M d kc ks pc lv [v] w Φ := by
  intro p l e R s m args below meth c H locs cells slots mc ms ls X h1 h2 h3 h4 hS hP hl
  refine W.widen (k := mc) (n := ms) (by omega) (by omega) ?_
  have hrr := X.2.2.2.1
  have hlk := X.2.2.2.2.1
  exact vx_ret (W.aret X.1 X.2.1 (hrr.trans hr) hrt hv (fun t ht hW => ⟨_, w, rfl, kk, by rw [ht]; exact hP, hS.F ht⟩) hS.2.2 hd hlk)
end MM
