/-! making, throwing, Math, arraycopy -/
section MK
variable {G : mG} {M : mM} {d kc ks kc2 ks2 pc : Nat} {lv : List (Nat × Value)} {st : List Value} {w : mH} {Φ : mF}
theorem mW_mmax {idx : Nat} {x y : Int32} (hd : decode M.2.1 pc = .ok (.invokestatic idx, 3)) (w1 : Cond.methodLink M.1.cls idx Lib.Math.max.name ∈ mTs) (w2 : Cond.static Lib.Math.max.name ∈ mTs) (w3 : Cond.initialized "java/lang/Math" ∈ mTs) (w4 : Cond.code Lib.Math.max.name Lib.Math.max.code 2 (some .int) ∈ mTs) (hr : (st.map fun v => v.category).sum ≤ 8) (h0 : 1 ≤ d) (kk : mW G M d kc ks (pc + 3) lv (.int (if x < y then y else x) :: st) w Φ) : mW G M d kc ks pc lv (.int y :: .int x :: st) w Φ := by
  intro p l e R s m args below meth c H locs cells slots mc ms ls X h1 h2 h3 h4 hS hP hl
  obtain ⟨hx, hb, hml, hrr, hlocks, hown, hnm, hts, hI, hlt, hxt, hdf, hdl⟩ := id X
  exact va_mmax hx hb (hml.trans hl.1.symm) hown (hts _ w1) (hts _ w2) (hts _ w3) (hts _ w4) (by omega) (by omega) (by omega) (by omega) hd (kk p l e R s m args below meth c H locs cells slots mc ms ls X h1 h2 h3 h4 hS hP hl)
theorem mW_mmin {idx : Nat} {x y : Int32} (hd : decode M.2.1 pc = .ok (.invokestatic idx, 3)) (w1 : Cond.methodLink M.1.cls idx Lib.Math.min.name ∈ mTs) (w2 : Cond.static Lib.Math.min.name ∈ mTs) (w3 : Cond.initialized "java/lang/Math" ∈ mTs) (w4 : Cond.code Lib.Math.min.name Lib.Math.min.code 2 (some .int) ∈ mTs) (hr : (st.map fun v => v.category).sum ≤ 8) (h0 : 1 ≤ d) (kk : mW G M d kc ks (pc + 3) lv (.int (if y < x then y else x) :: st) w Φ) : mW G M d kc ks pc lv (.int y :: .int x :: st) w Φ := by
  intro p l e R s m args below meth c H locs cells slots mc ms ls X h1 h2 h3 h4 hS hP hl
  obtain ⟨hx, hb, hml, hrr, hlocks, hown, hnm, hts, hI, hlt, hxt, hdf, hdl⟩ := id X
  exact va_mmin hx hb (hml.trans hl.1.symm) hown (hts _ w1) (hts _ w2) (hts _ w3) (hts _ w4) (by omega) (by omega) (by omega) (by omega) hd (kk p l e R s m args below meth c H locs cells slots mc ms ls X h1 h2 h3 h4 hS hP hl)
theorem mW_mabs {idx : Nat} {x : Int32} (hd : decode M.2.1 pc = .ok (.invokestatic idx, 3)) (w1 : Cond.methodLink M.1.cls idx Lib.Math.abs.name ∈ mTs) (w2 : Cond.static Lib.Math.abs.name ∈ mTs) (w3 : Cond.initialized "java/lang/Math" ∈ mTs) (w4 : Cond.code Lib.Math.abs.name Lib.Math.abs.code 1 (some .int) ∈ mTs) (hr : (st.map fun v => v.category).sum ≤ 8) (h0 : 1 ≤ d) (kk : mW G M d kc ks (pc + 3) lv (.int (if 0 ≤ x then x else 0 - x) :: st) w Φ) : mW G M d kc ks pc lv (.int x :: st) w Φ := by
  intro p l e R s m args below meth c H locs cells slots mc ms ls X h1 h2 h3 h4 hS hP hl
  obtain ⟨hx, hb, hml, hrr, hlocks, hown, hnm, hts, hI, hlt, hxt, hdf, hdl⟩ := id X
  exact va_mabs hx hb (hml.trans hl.1.symm) hown (hts _ w1) (hts _ w2) (hts _ w3) (hts _ w4) (by omega) (by omega) (by omega) (by omega) hd (kk p l e R s m args below meth c H locs cells slots mc ms ls X h1 h2 h3 h4 hS hP hl)
theorem mW_objInit {idx a : Nat} (hd : decode M.2.1 pc = .ok (.invokespecial idx, 3)) (w1 : Cond.methodLink M.1.cls idx Lib.objectInit ∈ mTs) (w2 : Cond.instanceMethod Lib.objectInit ∈ mTs) (w3 : Cond.code Lib.objectInit ⟨#[0xb1]⟩ 1 none ∈ mTs) (hr : (st.map fun v => v.category).sum ≤ 8) (h0 : 1 ≤ d) (kk : mW G M d kc ks (pc + 3) lv st w Φ) : mW G M d kc ks pc lv (.ref a :: st) w Φ := by
  intro p l e R s m args below meth c H locs cells slots mc ms ls X h1 h2 h3 h4 hS hP hl
  obtain ⟨hx, hb, hml, hrr, hlocks, hown, hnm, hts, hI, hlt, hxt, hdf, hdl⟩ := id X
  refine W.objInit hx hb hown (hts _ w1) (hts _ w2) (hts _ w3) rfl (by rw [hml]; exact hl.1) rfl hd (by omega) (by show 2 * 0 + _ + 12 ≤ _; omega) ?_
  exact kk p l e R s m args below meth c H locs cells slots mc ms ls X h1 h2 h3 h4 hS hP hl
theorem mOb_snew_ne (w : mH) (kd : Nat × Nat) {b : Nat} (h : b ≠ hN w) (c : Nat) : mOb (snew w kd) b c = mOb w b c := by unfold mOb; split <;> simp only [hfi_snew, hfl_snew, hfr_snew, va_up_ne _ _ h]
theorem mE_snew_ne {G : mG} (w : mH) (kd : Nat × Nat) {b : Nat} (h : b ≠ hN w) : mE G (snew w kd) b = mE G w b := by
  simp only [mE, hk_snew, va_up_ne _ _ h, mOb_snew_ne _ _ h, mAr, hai_snew, hal_snew, har_snew]
theorem mPic_new {G : mG} {w : mH} {kd : Nat × Nat} {H H1 : Heap} (hP : mPic G w H) (h1 : va_at G.2.1 mCl (hN w, mE G (snew w kd) (hN w)) H1) (hz : H1.size = H.size + 1) (ho : ∀ q : Nat, q < H.size → H1[q]? = H[q]?) : mPic G (snew w kd) H1 := by
  obtain ⟨p1, p2, p3, p4⟩ := hP
  refine ⟨fun b hb => ?_, fun b hb => ?_, ?_, ?_⟩
  · by_cases h : b = hN w
    · subst h
      exact h1
    · rw [mE_snew_ne _ _ h]
      rw [hk_snew, va_up_ne _ _ h] at hb
      exact (p1 b hb).kept (ho b (by rw [p3]; exact (p2 b hb).2))
  · rw [hN_snew]
    by_cases h : b = hN w
    · subst h
      exact ⟨p4, Nat.lt_succ_self _⟩
    · rw [hk_snew, va_up_ne _ _ h] at hb
      have := p2 b hb
      exact ⟨this.1, by omega⟩
  · rw [hz, p3]; rfl
  · rw [hN_snew]; omega
theorem va_S_new {A : Nat → Prop} {H0 H H1 : Heap} {locs : List Loc} (h : va_S A H0 H locs) (hz : H1.size = H.size + 1) (ho : ∀ q : Nat, q < H.size → H1[q]? = H[q]?) : va_S A H0 H1 locs := ⟨Nat.le_trans h.1 (by omega), fun x g1 g2 => (ho x (Nat.lt_of_lt_of_le g1 h.1)).trans (h.2.1 x g1 g2), h.2.2⟩
/-- what 'new' wants of the tables -/
def mMk (own : String) (idx ci N : Nat) : Prop := ∃ (C : String) (T : u_T) (tf : Nat → FieldType), mCl[ci]? = some (C, T, N) ∧ (∀ w ∈ u_ws C T N, w ∈ mTs) ∧ (∀ k, k < N → parseFieldDescriptor (T k).2.2.1 = some (tf k)) ∧ Cond.classLink own idx C ∈ mTs ∧ Cond.instantiable C N ∈ mTs ∧ Cond.initialized C ∈ mTs ∧ ci < 16 ∧ ∀ (w : mH) (a : Nat), hfi w a = (fun _ => 0) → hfl w a = (fun _ => 0) → hfr w a = (fun _ => none) → ∀ j, j < N → defaultValue (tf j) = vp_V (mOb w a ci) j
theorem mW_new {idx ci N : Nat} (hd : decode M.2.1 pc = .ok (.new idx, 3)) (hF : mMk M.1.cls idx ci N) (hk1 : 1 + kc2 = kc) (hk2 : N + ks2 = ks) (kk : mW G M d kc2 ks2 (pc + 3) lv (.ref (hN w) :: st) (snew w (ci, 0)) Φ) : mW G M d kc ks pc lv st w Φ := by
  intro p l e R s m args below meth c H locs cells slots mc ms ls X h1 h2 h3 h4 hS hP hl
  obtain ⟨hx, hb, hml, hrr, hlocks, hown, hnm, hts, hI, hlt, hxt, hdf, hdl⟩ := id X
  obtain ⟨C, T, tf, hc, hin, hty, f1, f2, f3, h16, hfs⟩ := hF
  have hKn := hI.1.1 ci _ hc
  refine W.newcK hx hb hown (hts _ f1) (hts _ f2) (hts _ f3) rfl hd (by omega) (by omega) hKn.2.1 hP.2.2.1 fun H1 kC hkC e1 z1 o1 => ?_
  have z2 : H1.size = H.size + 1 := by rw [hP.2.2.1]; exact z1
  have o2 : ∀ q : Nat, q < H.size → H1[q]? = H[q]? := fun q hq => o1 q (by rw [← hP.2.2.1]; exact hq)
  refine kk p l e R s m args below meth c H1 locs (cells + 1) (slots + N) mc ms ls X (by omega) (by omega) h3 h4 (va_S_new hS z2 o2) (mPic_new hP ?_ z2 o2) hl
  have hkd : hk (snew w (ci, 0)) (hN w) = (ci, 0) := by rw [hk_snew, va_up_self]
  rw [mE_ob hkd h16]
  exact ⟨_, hc, (u_born tf hts hin hKn hkC e1 hty).to (hfs (snew w (ci, 0)) (hN w) (by rw [hfi_snew, va_up_self]) (by rw [hfl_snew, va_up_self]) (by rw [hfr_snew, va_up_self]))⟩
theorem mW_newa {atype : ArrayType} {n : Int32} {N kd i : Nat} {ty : FieldType} (hd : decode M.2.1 pc = .ok (.newarray atype, 2)) (hw : Cond.arrayClass (newarray.typeOf atype) ∈ mTs) (hty : newarray.typeOf atype = ty) (hprim : ∀ C, ty ≠ .object C) (hi : (mTys G)[i]? = some (G.2.2.1 i, ty)) (hkd : kd = 16 + i) (hdv : ∀ (w : mH) (a : Nat) (cA : ClassId), hai w a = (fun _ => 0) → hal w a = (fun _ => 0) → vp_cell cA (mAr w a N kd) = arrV cA N (fun _ => defaultValue ty)) (hn : ¬ n < 0) (hNn : n.toNatClampNeg = N) (hbytes : N * componentBytes ty ≤ 536870912) (hk1 : 1 + kc2 = kc) (hk2 : N + ks2 = ks) (hk32 : kd < 32) (kk : mW G M d kc2 ks2 (pc + 2) lv (.ref (hN w) :: st) (snew w (kd, N)) Φ) : mW G M d kc ks pc lv (.int n :: st) w Φ := by
  intro p l e R s m args below meth c H locs cells slots mc ms ls X h1 h2 h3 h4 hS hP hl
  obtain ⟨hx, hb, hml, hrr, hlocks, hown, hnm, hts, hI, hlt, hxt, hdf, hdl⟩ := id X
  subst hty
  refine va_newaK hx hb (hts _ hw) rfl hd rfl hn hNn hbytes (by omega) (by omega) hP.2.2.1 fun H1 cA e1 z1 o1 hAr hNm => ?_
  have z2 : H1.size = H.size + 1 := by rw [hP.2.2.1]; exact z1
  have o2 : ∀ q : Nat, q < H.size → H1[q]? = H[q]? := fun q hq => o1 q (by rw [← hP.2.2.1]; exact hq)
  refine kk p l e R s m args below meth c H1 locs (cells + 1) (slots + N) mc ms ls X (by omega) (by omega) h3 h4 (va_S_new hS z2 o2) (mPic_new hP ?_ z2 o2) hl
  have hkk : hk (snew w (kd, N)) (hN w) = (kd, N) := by rw [hk_snew, va_up_self]
  have hcA : cA = G.2.2.1 i := by
    have h9 := (hI.1.2 i _ hi).2
    have h8 : s.vm.findClass ("[" ++ (newarray.typeOf atype).toString) = some (G.2.2.1 i) := by
      cases atype <;> exact h9
    exact Option.some.inj (hNm.symm.trans h8)
  have hE : mE G (snew w (kd, N)) (hN w) = .inl (G.2.2.1 i, mAr (snew w (kd, N)) (hN w) N kd) := by
    simp only [mE, hkk]
    rw [if_neg (by omega), hkd, Nat.add_sub_cancel_left]
  rw [hE]
  show H1[hN w]? = some (vp_cell _ _)
  rw [hdv _ _ _ (by rw [hai_snew, va_up_self]) (by rw [hal_snew, va_up_self]), ← hcA]
  exact e1
theorem mTys_get (i : Nat) (h : i < 5) : ∃ ty, (mTys G)[i]? = some (G.2.2.1 i, ty) := by
  rcases (show i = 0 ∨ i = 1 ∨ i = 2 ∨ i = 3 ∨ i = 4 by omega) with rfl | rfl | rfl | rfl | rfl <;> exact ⟨_, rfl⟩
theorem mW_newI {n : Int32} {N : Nat} (hd : decode M.2.1 pc = .ok (.newarray .int, 2)) (hw : Cond.arrayClass .int ∈ mTs) (hn : ¬ n < 0) (hNn : n.toNatClampNeg = N) (hb : N ≤ 67108864) (hk1 : 1 + kc2 = kc) (hk2 : N + ks2 = ks) (kk : mW G M d kc2 ks2 (pc + 2) lv (.ref (hN w) :: st) (snew w (16, N)) Φ) : mW G M d kc ks pc lv (.int n :: st) w Φ :=
  mW_newa (i := 0) (kd := 16) hd hw rfl (fun C h => by cases h) rfl rfl (fun w a cA h1 h2 => by unfold mAr; rw [if_neg (by decide), if_neg (by decide), h1]; rfl) hn hNn (Nat.le_trans (Nat.mul_le_mul hb (by decide : componentBytes .int ≤ 8)) (by decide)) hk1 hk2 (by decide) kk
theorem mW_newJ {n : Int32} {N : Nat} (hd : decode M.2.1 pc = .ok (.newarray .long, 2)) (hw : Cond.arrayClass .long ∈ mTs) (hn : ¬ n < 0) (hNn : n.toNatClampNeg = N) (hb : N ≤ 67108864) (hk1 : 1 + kc2 = kc) (hk2 : N + ks2 = ks) (kk : mW G M d kc2 ks2 (pc + 2) lv (.ref (hN w) :: st) (snew w (17, N)) Φ) : mW G M d kc ks pc lv (.int n :: st) w Φ :=
  mW_newa (i := 1) (kd := 17) hd hw rfl (fun C h => by cases h) rfl rfl (fun w a cA h1 h2 => by unfold mAr; rw [if_pos rfl, h2]; rfl) hn hNn (Nat.le_trans (Nat.mul_le_mul hb (by decide : componentBytes .long ≤ 8)) (by decide)) hk1 hk2 (by decide) kk
theorem mW_newC {n : Int32} {N : Nat} (hd : decode M.2.1 pc = .ok (.newarray .char, 2)) (hw : Cond.arrayClass .char ∈ mTs) (hn : ¬ n < 0) (hNn : n.toNatClampNeg = N) (hb : N ≤ 67108864) (hk1 : 1 + kc2 = kc) (hk2 : N + ks2 = ks) (kk : mW G M d kc2 ks2 (pc + 2) lv (.ref (hN w) :: st) (snew w (18, N)) Φ) : mW G M d kc ks pc lv (.int n :: st) w Φ :=
  mW_newa (i := 2) (kd := 18) hd hw rfl (fun C h => by cases h) rfl rfl (fun w a cA h1 h2 => by unfold mAr; rw [if_neg (by decide), if_neg (by decide), h1]; rfl) hn hNn (Nat.le_trans (Nat.mul_le_mul hb (by decide : componentBytes .char ≤ 8)) (by decide)) hk1 hk2 (by decide) kk
theorem mW_newB {n : Int32} {N : Nat} (hd : decode M.2.1 pc = .ok (.newarray .byte, 2)) (hw : Cond.arrayClass .byte ∈ mTs) (hn : ¬ n < 0) (hNn : n.toNatClampNeg = N) (hb : N ≤ 67108864) (hk1 : 1 + kc2 = kc) (hk2 : N + ks2 = ks) (kk : mW G M d kc2 ks2 (pc + 2) lv (.ref (hN w) :: st) (snew w (19, N)) Φ) : mW G M d kc ks pc lv (.int n :: st) w Φ :=
  mW_newa (i := 3) (kd := 19) hd hw rfl (fun C h => by cases h) rfl rfl (fun w a cA h1 h2 => by unfold mAr; rw [if_neg (by decide), if_neg (by decide), h1]; rfl) hn hNn (Nat.le_trans (Nat.mul_le_mul hb (by decide : componentBytes .byte ≤ 8)) (by decide)) hk1 hk2 (by decide) kk
theorem mW_newZ {n : Int32} {N : Nat} (hd : decode M.2.1 pc = .ok (.newarray .boolean, 2)) (hw : Cond.arrayClass .boolean ∈ mTs) (hn : ¬ n < 0) (hNn : n.toNatClampNeg = N) (hb : N ≤ 67108864) (hk1 : 1 + kc2 = kc) (hk2 : N + ks2 = ks) (kk : mW G M d kc2 ks2 (pc + 2) lv (.ref (hN w) :: st) (snew w (20, N)) Φ) : mW G M d kc ks pc lv (.int n :: st) w Φ :=
  mW_newa (i := 4) (kd := 20) hd hw rfl (fun C h => by cases h) rfl rfl (fun w a cA h1 h2 => by unfold mAr; rw [if_neg (by decide), if_neg (by decide), h1]; rfl) hn hNn (Nat.le_trans (Nat.mul_le_mul hb (by decide : componentBytes .boolean ≤ 8)) (by decide)) hk1 hk2 (by decide) kk
/-- 'throw new E(text)' -/
def mThr (own : String) (ik ic : Nat) (cls : String) (names : List String) : Prop := Bundle.fit cls = true ∧ (∀ n ∈ names, Bundle.fit n = true) ∧ Cond.classLink own ik cls ∈ mTs ∧ Cond.initialized cls ∈ mTs ∧ (∀ w ∈ vx_atS own ic cls names, w ∈ lw_tbl ∧ (goodWord w = true ∨ (mNest w = true ∧ w.onTables = true))) ∧ names.length ≤ 2
theorem mW_thr {ik is ic : Nat} {cls text : String} {names : List String} (d0 : decode M.2.1 pc = .ok (.new ik, 3)) (d3 : decode M.2.1 (pc + 3) = .ok (.dup, 1)) (d4 : decode M.2.1 (pc + 4) = .ok (.ldc is, 2)) (d6 : decode M.2.1 (pc + 6) = .ok (.invokespecial ic, 3)) (d9 : decode M.2.1 (pc + 9) = .ok (.athrow, 1)) (hF : mThr M.1.cls ik ic cls names) (hstr : (M.1.cls, is, text) ∈ mStrs) (hx0 : M.2.2.2.2 = []) (hr : (st.map fun v => v.category).sum ≤ 8) (hdd : 6 ≤ d) (hk1 : 1 ≤ kc) (hk2 : 6 ≤ ks) (kk : ∀ n, hN w ≤ n → Φ (.inr cls) (snn w n)) : mW G M d kc ks pc lv st w Φ := by
  intro p l e R s m args below meth c H locs cells slots mc ms ls X h1 h2 h3 h4 hS hP hl
  obtain ⟨hx, hb, hml, hrr, hlocks, hown, hnm, hts, hI, hlt, hxt, hdf, hdl⟩ := id X
  obtain ⟨f1, f2, f3, f4, f5, f6⟩ := hF
  obtain ⟨sa, hsa⟩ := hI.2.2.2.2.2.2.1 _ hstr
  have hat : ∀ w ∈ vx_atS M.1.cls ic cls names, w.before args s = true := fun w hw => by
    obtain ⟨g1, g2⟩ := f5 w hw
    rcases g2 with g2 | ⟨g2, g3⟩
    · exact hts w (List.mem_filter.mpr ⟨g1, g2⟩)
    · exact va_Nw.use g3 (hI.2.2.2.2.2.2.2 w g1 g2)
  have hgood : ∀ w ∈ Cond.classLink M.1.cls ik cls :: Cond.initialized cls :: vx_atS M.1.cls ic cls names, vx_ot w = true := fun w hw => by
    unfold vx_ot
    rw [Bool.or_eq_true]
    rcases List.mem_cons.mp hw with rfl | hw
    · exact Or.inr (List.mem_filter.mp f3).2
    · rcases List.mem_cons.mp hw with rfl | hw
      · exact Or.inr (List.mem_filter.mp f4).2
      · rcases (f5 w hw).2 with g2 | ⟨g2, g3⟩
        · exact Or.inr g2
        · exact Or.inl g3
  refine vx_throwS hx hb hlt hown f1 f2 (hts _ f3) (hts _ f4) hsa hat hgood hI.2.2.2.2.1 hI.2.2.2.2.2.1 hS (hl.1.trans hml.symm) d0 d3 d4 d6 d9 (by rw [hxt (by rw [hx0]; exact fun h => by cases h), hx0]; intro x hx; cases hx) (by omega) (by omega) (by omega) (by omega) hlocks (fun t hA hz ho => ⟨snn w t.heap.size, kk _ (by rw [← hP.2.2.1]; exact hz), ⟨fun a ha => ?_, fun a ha => ?_, rfl, ?_⟩, ?_⟩) hS.2.2 (by omega) (by omega)
  · exact (hP.1 a ha).kept (ho a (by rw [hP.2.2.1]; exact (hP.2.1 a ha).2))
  · have := hP.2.1 a ha
    have hz' := hz
    rw [hP.2.2.1] at hz'
    exact ⟨this.1, Nat.lt_of_lt_of_le this.2 hz'⟩
  · rw [hP.2.2.1] at hz
    exact Nat.le_trans hP.2.2.2 hz
  · exact ⟨Nat.le_trans hS.1 hz, fun q g1 g2 => (ho q (Nat.lt_of_lt_of_le g1 hS.1)).trans (hS.2.1 q g1 g2)⟩
theorem mW_thrW {ik is ic : Nat} {cls text : String} {names : List String} (d0 : decode M.2.1 pc = .ok (.new ik, 3)) (d3 : decode M.2.1 (pc + 3) = .ok (.dup, 1)) (d4 : decode M.2.1 (pc + 4) = .ok (.ldc_w is, 3)) (d6 : decode M.2.1 (pc + 7) = .ok (.invokespecial ic, 3)) (d9 : decode M.2.1 (pc + 10) = .ok (.athrow, 1)) (hF : mThr M.1.cls ik ic cls names) (hstr : (M.1.cls, is, text) ∈ mStrs) (hx0 : M.2.2.2.2 = []) (hr : (st.map fun v => v.category).sum ≤ 8) (hdd : 6 ≤ d) (hk1 : 1 ≤ kc) (hk2 : 6 ≤ ks) (kk : ∀ n, hN w ≤ n → Φ (.inr cls) (snn w n)) : mW G M d kc ks pc lv st w Φ := by
  intro p l e R s m args below meth c H locs cells slots mc ms ls X h1 h2 h3 h4 hS hP hl
  obtain ⟨hx, hb, hml, hrr, hlocks, hown, hnm, hts, hI, hlt, hxt, hdf, hdl⟩ := id X
  obtain ⟨f1, f2, f3, f4, f5, f6⟩ := hF
  obtain ⟨sa, hsa⟩ := hI.2.2.2.2.2.2.1 _ hstr
  have hat : ∀ w ∈ vx_atS M.1.cls ic cls names, w.before args s = true := fun w hw => by
    obtain ⟨g1, g2⟩ := f5 w hw
    rcases g2 with g2 | ⟨g2, g3⟩
    · exact hts w (List.mem_filter.mpr ⟨g1, g2⟩)
    · exact va_Nw.use g3 (hI.2.2.2.2.2.2.2 w g1 g2)
  have hgood : ∀ w ∈ Cond.classLink M.1.cls ik cls :: Cond.initialized cls :: vx_atS M.1.cls ic cls names, vx_ot w = true := fun w hw => by
    unfold vx_ot
    rw [Bool.or_eq_true]
    rcases List.mem_cons.mp hw with rfl | hw
    · exact Or.inr (List.mem_filter.mp f3).2
    · rcases List.mem_cons.mp hw with rfl | hw
      · exact Or.inr (List.mem_filter.mp f4).2
      · rcases (f5 w hw).2 with g2 | ⟨g2, g3⟩
        · exact Or.inr g2
        · exact Or.inl g3
  refine vx_throwSW hx hb hlt hown f1 f2 (hts _ f3) (hts _ f4) hsa hat hgood hI.2.2.2.2.1 hI.2.2.2.2.2.1 hS (hl.1.trans hml.symm) d0 d3 d4 d6 d9 (by rw [hxt (by rw [hx0]; exact fun h => by cases h), hx0]; intro x hx; cases hx) (by omega) (by omega) (by omega) (by omega) hlocks (fun t hA hz ho => ⟨snn w t.heap.size, kk _ (by rw [← hP.2.2.1]; exact hz), ⟨fun a ha => ?_, fun a ha => ?_, rfl, ?_⟩, ?_⟩) hS.2.2 (by omega) (by omega)
  · exact (hP.1 a ha).kept (ho a (by rw [hP.2.2.1]; exact (hP.2.1 a ha).2))
  · have := hP.2.1 a ha
    have hz' := hz
    rw [hP.2.2.1] at hz'
    exact ⟨this.1, Nat.lt_of_lt_of_le this.2 hz'⟩
  · rw [hP.2.2.1] at hz
    exact Nat.le_trans hP.2.2.2 hz
  · exact ⟨Nat.le_trans hS.1 hz, fun q g1 g2 => (ho q (Nat.lt_of_lt_of_le g1 hS.1)).trans (hS.2.1 q g1 g2)⟩
theorem m_nn {z : Int32} (hz : ¬ z < 0) : z.toInt = (z.toNatClampNeg : Int) := by
  have hz0 : (0 : Int) ≤ z.toInt := by
    have := Int32.not_lt.mp hz
    simpa using Int32.le_iff_toInt_le.mp this
  show z.toInt = ((z.toInt.toNat : Nat) : Int)
  omega
theorem mW_copy {idx a0 a n0 n1 : Nat} {sp dp n : Int32} (hd : decode M.2.1 pc = .ok (.invokestatic idx, 3)) (w1 : Cond.methodLink M.1.cls idx arraycopyName ∈ mTs) (w2 : Cond.native arraycopyName ∈ mTs) (w3 : Cond.static arraycopyName ∈ mTs) (w4 : Cond.initialized "java/lang/System" ∈ mTs) (hkd0 : hk w a0 = (16, n0)) (hkd1 : hk w a = (16, n1)) (g1 : ¬ sp < 0) (g2 : ¬ dp < 0) (g3 : ¬ n < 0) (g4 : sp.toNatClampNeg + n.toNatClampNeg ≤ n0) (g5 : dp.toNatClampNeg + n.toNatClampNeg ≤ n1) (hr : (st.map fun v => v.category).sum ≤ 8) (h0 : 1 ≤ d)
    (kk : mW G M d kc ks (pc + 3) lv st (sax w a (va_cpy (hai w a0) (hai w a) sp.toNatClampNeg dp.toNatClampNeg n.toNatClampNeg)) Φ) : mW G M d kc ks pc lv (.int n :: .int dp :: .ref a :: .int sp :: .ref a0 :: st) w Φ := by
  intro p l e R s m args below meth c H locs cells slots mc ms ls X h1 h2 h3 h4 hS hP hl
  obtain ⟨hx, hb, hml, hrr, hlocks, hown, hnm, hts, hI, hlt, hxt, hdf, hdl⟩ := id X
  intro T hT Y
  have hl0 : (hk w a0).1 < 32 := by rw [hkd0]; show 16 < 32; omega
  have hl1 : (hk w a).1 < 32 := by rw [hkd1]; show 16 < 32; omega
  have hc0 : H[a0]? = some (vp_cell (G.2.2.1 0) (n0, .inl (hai w a0))) := mPic_one hP hl0 (mE_ai (G := G) hkd0 (by decide) (by decide) (by decide)) 0 _ rfl
  have hc1 : H[a]? = some (vp_cell (G.2.2.1 0) (n1, .inl (hai w a))) := mPic_one hP hl1 (mE_ai (G := G) hkd1 (by decide) (by decide) (by decide)) 0 _ rfl
  obtain ⟨-, k0, hk0, cm0, hkk0⟩ := (hI.1.2 0 _ rfl).1 n0 (fun j => .int (hai w a0 j))
  obtain ⟨-, k1, hk1, cm1, hkk1⟩ := (hI.1.2 0 _ rfl).1 n1 (fun j => .int (hai w a j))
  have hloc : 2 * 0 + (st.map fun v => v.category).sum + (nativeFrameWords "java/lang/System" "arraycopy" 5 + 11) ≤ R.locals := by
    have e9 : nativeFrameWords "java/lang/System" "arraycopy" 5 ≤ 40 := by decide +kernel
    omega
  obtain ⟨vm', X', step⟩ := Y.arraycopy hx hown (hts _ w1) (hts _ w2) (hts _ w3) (hts _ w4) (src := a0) (dst := a) (cs := vp_cell (G.2.2.1 0) (n0, .inl (hai w a0))) (cd := vp_cell (G.2.2.1 0) (n1, .inl (hai w a))) (srcPos := sp) (destPos := dp) (n := n) (by rw [hT]; exact hc0) (by rw [hT]; exact hc1)
    (fun _ h => by cases h) (fun _ h => by cases h) (fun h => by cases h) (fun h => by cases h) hk0 hk1 hkk0 hkk1 (by simp [refKind]) g1 g2 g3
    (by rw [m_nn g1, m_nn g3]; show ¬ _ > ((arrV _ n0 (fun j => .int (hai w a0 j))).slots.size : Int); rw [arrV_size]; omega)
    (by rw [m_nn g2, m_nn g3]; show ¬ _ > ((arrV _ n1 (fun j => .int (hai w a j))).slots.size : Int); rw [arrV_size]; omega)
    (fun vm₁ _ i hi => by
      have e : (vp_cell (G.2.2.1 0) (n0, .inl (hai w a0))).slots.getD (sp.toNatClampNeg + i) .null = .int (hai w a0 (sp.toNatClampNeg + i)) := by
        show (arrV _ n0 (fun j => .int (hai w a0 j))).slots.getD _ _ = _
        rw [Array.getD_eq_getD_getElem?, arrV_read _ _ (by omega)]
        rfl
      refine ⟨?_, ?_⟩
      · rw [e]
        rfl
      · rw [e]
        exact trivial)
    (g := F0 m pc ls (.int n :: .int dp :: .ref a :: .int sp :: .ref a0 :: st)) rfl (by rw [hml]; exact hl.1) (rest := st) rfl (by rw [hb]; exact hd) (by omega) hloc
  have e1 : copied (vp_cell (G.2.2.1 0) (n0, .inl (hai w a0))) (vp_cell (G.2.2.1 0) (n1, .inl (hai w a))) sp dp n = vp_cell (G.2.2.1 0) (n1, .inl (va_cpy (hai w a0) (hai w a) sp.toNatClampNeg dp.toNatClampNeg n.toNatClampNeg)) := va_copied (fun z => .int z) _ _ (hai w a0) (hai w a) g4
  rw [e1] at X' step
  have hlt1 : a < H.size := (Array.getElem?_eq_some_iff.mp hc1).1
  generalize hC : vp_cell (G.2.2.1 0) (n1, .inl (va_cpy (hai w a0) (hai w a) sp.toNatClampNeg dp.toNatClampNeg n.toNatClampNeg)) = cN at X' step
  have hheap : ((T.setVm vm').setCell a cN).heap = H.setIfInBounds a cN := by rw [← hT]; rfl
  have oq : ∀ q : Nat, q ≠ a → (H.setIfInBounds a cN)[q]? = H[q]? := fun q hq => by simp [Array.getElem?_setIfInBounds, Ne.symm hq]
  have hA : mA G a := (hP.2.1 a hl1).1
  obtain ⟨t, a1, b1⟩ := kk p l e R s m args below meth c (H.setIfInBounds a cN) _ cells slots mc ms ls X h1 h2 h3 h4 ⟨by simp; exact hS.1, fun q z1 z2 => by
      rw [oq q (fun e => z2 (by rw [e]; exact hA))]
      exact hS.2.1 q z1 z2, fun q hq => by
      rcases List.mem_append.mp hq with h | h
      · exact hS.2.2 q h
      · obtain ⟨z, -, hz⟩ := List.mem_map.mp h
        rw [← hz]
        exact hA⟩ (mPic_set hP rfl rfl (mE_sax (G := G) hkd1) (by show (H.setIfInBounds a cN)[a]? = some (vp_cell _ _); rw [hC]; simp [Array.getElem?_setIfInBounds, hlt1]) (by simp) oq) hl _ hheap X'
  exact ⟨t, step t a1, b1⟩
end MK
