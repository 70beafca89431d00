/-! more rules: floats, null, rows of references, clone, the script, statics of the JDK, inherited calls -/
section M14
variable {G : mG} {M M' : mM} {d d' kc ks kc' ks' kc2 ks2 pc : Nat} {lv lv2 : List (Nat × Value)} {st st2 rest As : List Value} {w w2 : mH} {Φ Ψ : mF}
theorem mW_dadd {x y : UInt64} (hd : decode M.2.1 pc = .ok (.dadd, 1)) (h0 : vf_n64 (FP.dadd x y)) (k : mW G M d kc ks (pc + 1) lv (.double (FP.dadd x y) :: st) w Φ) : mW G M d kc ks pc lv (.double y :: .double x :: st) w Φ := mW_go (fun p l e R s m args below meth c H locs cells slots Q ls hx hb ho hts hl kk => lv_dadd hx hb  hd h0 kk) k
theorem mW_dsub {x y : UInt64} (hd : decode M.2.1 pc = .ok (.dsub, 1)) (h0 : vf_n64 (FP.dsub x y)) (k : mW G M d kc ks (pc + 1) lv (.double (FP.dsub x y) :: st) w Φ) : mW G M d kc ks pc lv (.double y :: .double x :: st) w Φ := mW_go (fun p l e R s m args below meth c H locs cells slots Q ls hx hb ho hts hl kk => lv_dsub hx hb  hd h0 kk) k
theorem mW_dmul {x y : UInt64} (hd : decode M.2.1 pc = .ok (.dmul, 1)) (h0 : vf_n64 (FP.dmul x y)) (k : mW G M d kc ks (pc + 1) lv (.double (FP.dmul x y) :: st) w Φ) : mW G M d kc ks pc lv (.double y :: .double x :: st) w Φ := mW_go (fun p l e R s m args below meth c H locs cells slots Q ls hx hb ho hts hl kk => lv_dmul hx hb  hd h0 kk) k
theorem mW_ddiv {x y : UInt64} (hd : decode M.2.1 pc = .ok (.ddiv, 1)) (h0 : vf_n64 (FP.ddiv x y)) (k : mW G M d kc ks (pc + 1) lv (.double (FP.ddiv x y) :: st) w Φ) : mW G M d kc ks pc lv (.double y :: .double x :: st) w Φ := mW_go (fun p l e R s m args below meth c H locs cells slots Q ls hx hb ho hts hl kk => lv_ddiv hx hb  hd h0 kk) k
theorem mW_dcmp {x y : UInt64} {op : CmpOp} (hd : decode M.2.1 pc = .ok (.dcmp op, 1))  (k : mW G M d kc ks (pc + 1) lv (.int (Op.cmpValue (FP.dcmp x y) op) :: st) w Φ) : mW G M d kc ks pc lv (.double y :: .double x :: st) w Φ := mW_go (fun p l e R s m args below meth c H locs cells slots Q ls hx hb ho hts hl kk => lv_dcmp hx hb  hd  kk) k
theorem mW_fadd {x y : UInt32} (hd : decode M.2.1 pc = .ok (.fadd, 1)) (h0 : vf_n32 (FP.fadd x y)) (k : mW G M d kc ks (pc + 1) lv (.float (FP.fadd x y) :: st) w Φ) : mW G M d kc ks pc lv (.float y :: .float x :: st) w Φ := mW_go (fun p l e R s m args below meth c H locs cells slots Q ls hx hb ho hts hl kk => lv_fadd hx hb  hd h0 kk) k
theorem mW_fsub {x y : UInt32} (hd : decode M.2.1 pc = .ok (.fsub, 1)) (h0 : vf_n32 (FP.fsub x y)) (k : mW G M d kc ks (pc + 1) lv (.float (FP.fsub x y) :: st) w Φ) : mW G M d kc ks pc lv (.float y :: .float x :: st) w Φ := mW_go (fun p l e R s m args below meth c H locs cells slots Q ls hx hb ho hts hl kk => lv_fsub hx hb  hd h0 kk) k
theorem mW_fmul {x y : UInt32} (hd : decode M.2.1 pc = .ok (.fmul, 1)) (h0 : vf_n32 (FP.fmul x y)) (k : mW G M d kc ks (pc + 1) lv (.float (FP.fmul x y) :: st) w Φ) : mW G M d kc ks pc lv (.float y :: .float x :: st) w Φ := mW_go (fun p l e R s m args below meth c H locs cells slots Q ls hx hb ho hts hl kk => lv_fmul hx hb  hd h0 kk) k
theorem mW_fdiv {x y : UInt32} (hd : decode M.2.1 pc = .ok (.fdiv, 1)) (h0 : vf_n32 (FP.fdiv x y)) (k : mW G M d kc ks (pc + 1) lv (.float (FP.fdiv x y) :: st) w Φ) : mW G M d kc ks pc lv (.float y :: .float x :: st) w Φ := mW_go (fun p l e R s m args below meth c H locs cells slots Q ls hx hb ho hts hl kk => lv_fdiv hx hb  hd h0 kk) k
theorem mW_fcmp {x y : UInt32} {op : CmpOp} (hd : decode M.2.1 pc = .ok (.fcmp op, 1))  (k : mW G M d kc ks (pc + 1) lv (.int (Op.cmpValue (FP.fcmp x y) op) :: st) w Φ) : mW G M d kc ks pc lv (.float y :: .float x :: st) w Φ := mW_go (fun p l e R s m args below meth c H locs cells slots Q ls hx hb ho hts hl kk => lv_fcmp hx hb  hd  kk) k
theorem mW_i2d {x : Int32} (hd : decode M.2.1 pc = .ok (.i2d, 1))  (k : mW G M d kc ks (pc + 1) lv (.double (FP.i2d x) :: st) w Φ) : mW G M d kc ks pc lv (.int x :: st) w Φ := mW_go (fun p l e R s m args below meth c H locs cells slots Q ls hx hb ho hts hl kk => lv_i2d hx hb  hd  kk) k
theorem mW_i2f {x : Int32} (hd : decode M.2.1 pc = .ok (.i2f, 1))  (k : mW G M d kc ks (pc + 1) lv (.float (FP.i2f x) :: st) w Φ) : mW G M d kc ks pc lv (.int x :: st) w Φ := mW_go (fun p l e R s m args below meth c H locs cells slots Q ls hx hb ho hts hl kk => lv_i2f hx hb  hd  kk) k
theorem mW_d2l {x : UInt64} (hd : decode M.2.1 pc = .ok (.d2l, 1))  (k : mW G M d kc ks (pc + 1) lv (.long (FP.d2l x) :: st) w Φ) : mW G M d kc ks pc lv (.double x :: st) w Φ := mW_go (fun p l e R s m args below meth c H locs cells slots Q ls hx hb ho hts hl kk => lv_d2l hx hb  hd  kk) k
theorem mW_f2i {x : UInt32} (hd : decode M.2.1 pc = .ok (.f2i, 1))  (k : mW G M d kc ks (pc + 1) lv (.int (FP.f2i x) :: st) w Φ) : mW G M d kc ks pc lv (.float x :: st) w Φ := mW_go (fun p l e R s m args below meth c H locs cells slots Q ls hx hb ho hts hl kk => lv_f2i hx hb  hd  kk) k
theorem mW_dconst0  (hd : decode M.2.1 pc = .ok (.dconst 0, 1))  (k : mW G M d kc ks (pc + 1) lv (.double FP.dconst0 :: st) w Φ) : mW G M d kc ks pc lv (st) w Φ := mW_go (fun p l e R s m args below meth c H locs cells slots Q ls hx hb ho hts hl kk => lv_dconst0 hx hb  hd  kk) k
theorem mW_dconst1  (hd : decode M.2.1 pc = .ok (.dconst 1, 1))  (k : mW G M d kc ks (pc + 1) lv (.double FP.dconst1 :: st) w Φ) : mW G M d kc ks pc lv (st) w Φ := mW_go (fun p l e R s m args below meth c H locs cells slots Q ls hx hb ho hts hl kk => lv_dconst1 hx hb  hd  kk) k
theorem mW_fconst0  (hd : decode M.2.1 pc = .ok (.fconst 0, 1))  (k : mW G M d kc ks (pc + 1) lv (.float FP.fconst0 :: st) w Φ) : mW G M d kc ks pc lv (st) w Φ := mW_go (fun p l e R s m args below meth c H locs cells slots Q ls hx hb ho hts hl kk => lv_fconst0 hx hb  hd  kk) k
theorem mW_fconst1  (hd : decode M.2.1 pc = .ok (.fconst 1, 1))  (k : mW G M d kc ks (pc + 1) lv (.float FP.fconst1 :: st) w Φ) : mW G M d kc ks pc lv (st) w Φ := mW_go (fun p l e R s m args below meth c H locs cells slots Q ls hx hb ho hts hl kk => lv_fconst1 hx hb  hd  kk) k
theorem mW_fconst2  (hd : decode M.2.1 pc = .ok (.fconst 2, 1))  (k : mW G M d kc ks (pc + 1) lv (.float FP.fconst2 :: st) w Φ) : mW G M d kc ks pc lv (st) w Φ := mW_go (fun p l e R s m args below meth c H locs cells slots Q ls hx hb ho hts hl kk => lv_fconst2 hx hb  hd  kk) k
theorem mW_i2b {x v : Int32} (hd : decode M.2.1 pc = .ok (.i2b, 1)) (hv : x.toInt8.toInt32 = v) (k : mW G M d kc ks (pc + 1) lv (.int v :: st) w Φ) : mW G M d kc ks pc lv (.int x :: st) w Φ := mW_go (fun p l e R s m args below meth c H locs cells slots Q ls hx hb ho hts hl kk => lv_i2b hx hb  hd hv kk) k
theorem mW_i2c {x v : Int32} (hd : decode M.2.1 pc = .ok (.i2c, 1)) (hv : (x.toUInt32 % 65536).toInt32 = v) (k : mW G M d kc ks (pc + 1) lv (.int v :: st) w Φ) : mW G M d kc ks pc lv (.int x :: st) w Φ := mW_go (fun p l e R s m args below meth c H locs cells slots Q ls hx hb ho hts hl kk => lv_i2c hx hb  hd hv kk) k
theorem mW_lshl {x v : Int64} {y : Int32} (hd : decode M.2.1 pc = .ok (.lshl, 1)) (hv : x <<< (y.toInt64 &&& 63) = v) (k : mW G M d kc ks (pc + 1) lv (.long v :: st) w Φ) : mW G M d kc ks pc lv (.int y :: .long x :: st) w Φ := mW_go (fun p l e R s m args below meth c H locs cells slots Q ls hx hb ho hts hl kk => lv_lshl hx hb  hd hv kk) k
theorem mW_anull  (hd : decode M.2.1 pc = .ok (.aconst_null, 1))  (k : mW G M d kc ks (pc + 1) lv (.null :: st) w Φ) : mW G M d kc ks pc lv (st) w Φ := mW_go (fun p l e R s m args below meth c H locs cells slots Q ls hx hb ho hts hl kk => lv_null hx hb  hd  kk) k
theorem mW_ifnull {x : Nat} {off : Int} (hd : decode M.2.1 pc = .ok (.ifnull off, 3))  (k : mW G M d kc ks (pc + 3) lv (st) w Φ) : mW G M d kc ks pc lv (.ref x :: st) w Φ := mW_go (fun p l e R s m args below meth c H locs cells slots Q ls hx hb ho hts hl kk => lv_ifnull hx hb  hd  kk) k
theorem mW_ifnullN {off : Int} {tgt : Nat} (hd : decode M.2.1 pc = .ok (.ifnull off, 3)) (ht : (pc : Int) + off = (tgt : Int)) (k : mW G M d kc ks tgt lv st w Φ) : mW G M d kc ks pc lv (.null :: st) w Φ := mW_go (fun p l e R s m args below meth c H locs cells slots Q ls hx hb ho hts hl kk => lv_ifnullN hx hb hd ht kk) k
theorem mW_ldcf {idx : Nat} {v : UInt32} (hd : decode M.2.1 pc = .ok (.ldc idx, 2)) (hw : Cond.constantFloat M.1.cls idx v ∈ mTs) (k : mW G M d kc ks (pc + 2) lv (.float v :: st) w Φ) : mW G M d kc ks pc lv st w Φ := mW_go (fun p l e R s m args below meth c H locs cells slots Q ls hx hb ho hts hl kk => lv_ldcf hx hb ho (hts _ hw) hd kk) k
theorem mW_ldc2d {idx : Nat} {v : UInt64} (hd : decode M.2.1 pc = .ok (.ldc2_w idx, 3)) (hw : Cond.constantDouble M.1.cls idx v ∈ mTs) (k : mW G M d kc ks (pc + 3) lv (.double v :: st) w Φ) : mW G M d kc ks pc lv st w Φ := mW_go (fun p l e R s m args below meth c H locs cells slots Q ls hx hb ho hts hl kk => lv_ldc2d hx hb ho (hts _ hw) hd kk) k
theorem mW_aast {a n b : Nat} {i : Int32} (hd : decode M.2.1 pc = .ok (.aastore, 1)) (hkd : hk w a = (21, n)) (hin : vp_in i n) (hkb : hk w b = (3, 0)) (kk : mW G M d kc ks (pc + 1) lv st (sar w a i.toNatClampNeg (some b)) Φ) : mW G M d kc ks pc lv (.ref b :: .int i :: .ref a :: st) w Φ := by
  intro p l e R s m args below meth c H locs cells slots mc ms ls X h1 h2 h3 h4 hS hP hl
  obtain ⟨hx, hb, hml, hrr, hlocks, hown, hnm, hts, hI, hlt, hxt, hdf, hdl⟩ := id X
  have hl32 : (hk w a).1 < 32 := by rw [hkd]; show 21 < 32; omega
  have hP1 := mPic_one hP hl32 (mE_ar (G := G) hkd)
  have hlb : (hk w b).1 < 32 := by rw [hkb]; show 3 < 32; omega
  have hlt' : i.toNatClampNeg < n := Nat.not_le.mp fun q => hin (Or.inr q)
  have h0 : ¬ i < 0 := fun q => hin (Or.inl q)
  obtain ⟨r, hr, cellV, g1, g2, g3, -⟩ := mPic_one hP hlb (mE_ob (G := G) hkb (by decide)) 0 _ rfl
  have hcls := (hI.1.1 3 _ rfl).2
  obtain ⟨kA, comp, k1, k2, k3, -⟩ := (hI.1.2 5 _ rfl).2
  have hcomp : comp = G.2.1.1 3 := Option.some.inj (k3.symm.trans hcls.1)
  subst hcomp
  obtain ⟨kC, hkC, -⟩ := hcls.2
  refine W.aast hx hb (hP1 0 _ rfl) (fun q h => by cases h) (fun h => by cases h) k1 k2 rfl hkC ⟨h0, by show _ < (arrV _ _ _).slots.size; rw [arrV_size]; exact hlt'⟩ g1 (fun q h => by rw [g3] at h; cases h) (by rw [g2]; exact hkC) (by rw [g2]; exact va_assign hcls) rfl rfl hd fun H1 e1 z oq => ?_
  refine kk p l e R s m args below meth c H1 _ cells slots mc ms ls X h1 h2 h3 h4 (hS.put z oq (hP.2.1 a hl32).1) (mPic_set hP rfl rfl (mE_sar hkd) ?_ z oq) hl
  show H1[a]? = some (vp_cell _ _)
  rw [e1, vp_cell_q, vp_cell_q, arrV_store]
  congr 2
  funext q
  by_cases hq : q = i.toNatClampNeg
  · subst hq
    simp [updV, va_up, va_rf]
  · simp [updV, va_up, hq]
theorem mW_anew {idx N : Nat} {n : Int32} (hd : decode M.2.1 pc = .ok (.anewarray idx, 3)) (w1 : Cond.classLink M.1.cls idx "LineFollowerBench$Setup" ∈ mTs) (hn : ¬ n < 0) (hNn : n.toNatClampNeg = N) (hbytes : N * 4 ≤ 536870912) (hk1 : 1 + kc2 = kc) (hk2 : N + ks2 = ks) (kk : mW G M d kc2 ks2 (pc + 3) lv (.ref (hN w) :: st) (snew w (21, N)) Φ) : mW G M d kc ks pc lv (.int n :: st) w Φ := by
  intro p l e R s m args below meth c H locs cells slots mc ms ls X h1 h2 h3 h4 hS hP hl
  obtain ⟨hx, hb, hml, hrr, hlocks, hown, hnm, hts, hI, hlt, hxt, hdf, hdl⟩ := id X
  subst hNn
  refine W.anew hx hb hown (hts _ w1) (va_AO.use hI.2.2.2.1.2.2.2.2.1) rfl hd rfl hn hbytes (by omega) (by omega) fun cA kA comp f1 f2 f3 f4 => ?_
  generalize hH1 : H.push ({ cls := cA, slots := Array.replicate n.toNatClampNeg .null, vm := .none } : Cell) = H1
  have z1 : H1.size = H.size + 1 := by rw [← hH1, Array.size_push]
  have e1 : H1[H.size]? = some (arrV cA n.toNatClampNeg (fun _ => .null)) := by rw [← hH1, Array.getElem?_push_size, ← arrV_new]
  have o1 : ∀ q : Nat, q < H.size → H1[q]? = H[q]? := fun q hq => by rw [← hH1, Array.getElem?_push, if_neg (Nat.ne_of_lt hq)]
  have hsz : H.size = hN w := hP.2.2.1
  have hcA : cA = G.2.2.1 5 := by
    obtain ⟨kA', comp', -, -, -, k4⟩ := (hI.1.2 5 _ rfl).2
    exact Option.some.inj (f1.symm.trans k4)
  refine (show W p l e R s m args below meth c H1 locs (cells + 1) (slots + n.toNatClampNeg) _ (F0 m (pc + 3) ls (.ref H.size :: st)) from ?_)
  rw [hsz]
  refine kk p l e R s m args below meth c H1 locs (cells + 1) (slots + n.toNatClampNeg) mc ms ls X (by omega) (by omega) h3 h4 (va_S_new hS z1 o1) (mPic_new hP ?_ z1 o1) hl
  have hkk : hk (snew w (21, n.toNatClampNeg)) (hN w) = (21, n.toNatClampNeg) := by rw [hk_snew, va_up_self]
  rw [mE_ar hkk, har_snew, va_up_self]
  show H1[hN w]? = some (vp_cell _ _)
  rw [vp_cell_q, ← hsz, e1, hcA]
  rfl
theorem m_isI {G : mG} {s : State} (hI : mInv G s s.heap) : s.vm.findClass "[I" = some (G.2.2.1 0) := (hI.1.2 0 _ rfl).2
theorem mW_clone0 {idx : Nat} (hd : decode M.2.1 pc = .ok (.invokevirtual idx, 3)) (w1 : Cond.methodLink M.1.cls idx ⟨"[I", "clone", "()Ljava/lang/Object;"⟩ ∈ mTs) (w2 : Cond.sameMethod "[I" "java/lang/Object" "clone" "()Ljava/lang/Object;" ∈ mTs) (w3 : Cond.native ⟨"java/lang/Object", "clone", "()Ljava/lang/Object;"⟩ ∈ mTs) (w4 : Cond.instanceMethod ⟨"java/lang/Object", "clone", "()Ljava/lang/Object;"⟩ ∈ mTs) (w5 : Cond.selects "[I" ⟨"[I", "clone", "()Ljava/lang/Object;"⟩ ⟨"java/lang/Object", "clone", "()Ljava/lang/Object;"⟩ ∈ mTs) (w6 : Cond.castable "[I" "java/lang/Cloneable" ∈ lw_tbl) (hr : (st.map fun v => v.category).sum ≤ 8) (h0 : 1 ≤ d) (hk1 : 1 + kc2 = kc) (hk2 : 15 + ks2 = ks) (kk : mW G M d kc2 ks2 (pc + 3) lv (.ref (hN w) :: st) (sax (snew w (16, 15)) (hN w) (fun j => (mSv 0).getD j 0)) Φ) : mW G M d kc ks pc lv (.ref (G.2.2.2 0) :: st) w Φ := by
  intro p l e R s m args below meth c H locs cells slots mc ms ls X h1 h2 h3 h4 hS hP hl
  obtain ⟨hx, hb, hml, hrr, hlocks, hown, hnm, hts, hI, hlt, hxt, hdf, hdl⟩ := id X
  obtain ⟨cell, c1, c2, c3, c4, c5, c6⟩ := hI.2.2.2.1.2.1
  have hcast : va_Nw (.castable "[I" "java/lang/Cloneable") s := hI.2.2.2.2.2.2.2 _ w6 rfl
  obtain ⟨c0, t0', f1, f2, f3⟩ := Cond.castable_spec (va_Nw.use (A := args) rfl hcast)
  have hnm := m_isI hI
  cases hnm.symm.trans f1
  have hsz0 : cell.slots.size = 15 := by rw [c5]; exact arrV_size _ _ _
  have hcellE : ({ cls := cell.cls, slots := cell.slots } : Cell) = vp_cell (G.2.2.1 0) (15, .inl (fun j => (mSv 0).getD j 0)) := by rw [c2, c5]; rfl
  intro T hT Y
  have hcellT : T.heap[G.2.2.2 0]? = some cell := by rw [hT, hS.2.1 _ (Array.getElem?_eq_some_iff.mp c1).1 c6]; exact c1
  obtain ⟨-, kA, hkA, comp, hkind⟩ := State.isArrayOf_alike Y.warmed.alike ((hI.1.2 0 _ rfl).1 0 (fun _ => .null))
  obtain ⟨-, kS, hkS, compS, hkindS⟩ := (hI.1.2 0 _ rfl).1 0 (fun _ => .null)
  have hfit : ∀ (i : Nat) (v : Value), cell.slots[i]? = some v → fits .int v = true := by
    intro i v hv
    rw [c5] at hv
    by_cases hi : i < 15
    · have e := arrV_read (G.2.2.1 0) (fun j => Value.int ((mSv 0).getD j 0)) hi
      rw [show (vp_cell (G.2.2.1 0) (15, .inl (fun j => (mSv 0).getD j 0))).slots[i]? = _ from e] at hv
      cases hv
      rfl
    · have e : (vp_cell (G.2.2.1 0) (15, .inl (fun j => (mSv 0).getD j 0))).slots.size = 15 := arrV_size _ _ _
      rw [Array.getElem?_eq_none (by rw [e]; omega)] at hv
      cases hv
  obtain ⟨vm', X', stp⟩ := Y.cloneArray hx hown (hts _ w1) (hts _ w2) (hts _ w3) (hts _ w4) (hts _ w5) (a := G.2.2.2 0) (cell := cell) hcellT c4 c3 (by rw [c2]; exact hnm) f2 (by rw [c2]; exact f3)
    (fun i v hv => by
      rw [c2]
      have hk' : T.vm.classes[G.2.2.1 0]? = some kA := hkA
      simpa [State.fitsSlot, State.slotType?, hk', hkind] using hfit i v hv)
    (g := F0 m pc ls (.ref (G.2.2.2 0) :: st)) rfl (by rw [hml]; exact hl.1) rfl (by rw [hb]; exact hd) (by omega) (by show 2 * 0 + _ + 14 ≤ _; omega) (by omega) (by rw [hsz0]; omega) (hloader := by rw [c2]; exact Vm.clonesLoader_of_array hkS hkindS)
  rw [hcellE, hsz0] at X'
  generalize hH1 : H.push (vp_cell (G.2.2.1 0) (15, .inl (fun j => (mSv 0).getD j 0))) = H1
  have z1 : H1.size = H.size + 1 := by rw [← hH1, Array.size_push]
  have e1 : H1[H.size]? = some (vp_cell (G.2.2.1 0) (15, .inl (fun j => (mSv 0).getD j 0))) := by rw [← hH1, Array.getElem?_push_size]
  have o1 : ∀ q : Nat, q < H.size → H1[q]? = H[q]? := fun q hq => by rw [← hH1, Array.getElem?_push, if_neg (Nat.ne_of_lt hq)]
  have hsz : H.size = hN w := hP.2.2.1
  have hP1 : mPic G (sax (snew w (16, 15)) (hN w) (fun j => (mSv 0).getD j 0)) H1 := by
    obtain ⟨p1, p2, p3, p4⟩ := hP
    have hkk : hk (sax (snew w (16, 15)) (hN w) (fun j => (mSv 0).getD j 0)) (hN w) = (16, 15) := by rw [hk_sax, hk_snew, va_up_self]
    have hE : ∀ b, b ≠ hN w → mE G (sax (snew w (16, 15)) (hN w) (fun j => (mSv 0).getD j 0)) b = mE G w b := fun b hb => by
      rw [mE_sax (n := 15) (by rw [hk_snew, va_up_self]), va_up_ne _ _ hb, mE_snew_ne _ _ hb]
    refine ⟨fun b hb => ?_, fun b hb => ?_, ?_, ?_⟩
    · by_cases h : b = hN w
      · subst h
        rw [mE_ai hkk (by decide) (by decide) (by decide), hai_sax, va_up_self]
        show H1[hN w]? = some (vp_cell _ _)
        rw [← hsz]; exact e1
      · rw [hE b h]
        rw [hk_sax, hk_snew, va_up_ne _ _ h] at hb
        exact (p1 b hb).kept (o1 b (by rw [p3]; exact (p2 b hb).2))
    · rw [hN_sax, hN_snew]
      by_cases h : b = hN w
      · subst h
        exact ⟨p4, Nat.lt_succ_self _⟩
      · rw [hk_sax, hk_snew, va_up_ne _ _ h] at hb
        have := p2 b hb
        exact ⟨this.1, by omega⟩
    · rw [z1, p3]; rfl
    · rw [hN_sax, hN_snew]; omega
  obtain ⟨t, b1, b2⟩ := kk p l e R s m args below meth c H1 locs (cells + 1) (slots + 15) mc ms ls X (by omega) (by omega) h3 h4 (va_S_new hS z1 o1) hP1 hl _ (by rw [← hH1, ← hT]; rfl) X'
  refine ⟨t, stp t ?_, b2⟩
  rw [hcellE, hT, hsz]
  exact b1
theorem mW_castI {a n idx : Nat} (hd : decode M.2.1 pc = .ok (.checkcast idx, 3)) (w1 : Cond.classLink M.1.cls idx "[I" ∈ mTs) (hkd : hk w a = (16, n)) (kk : mW G M d kc ks (pc + 3) lv (.ref a :: st) w Φ) : mW G M d kc ks pc lv (.ref a :: st) w Φ := by
  intro p l e R s m args below meth c H locs cells slots mc ms ls X h1 h2 h3 h4 hS hP hl
  obtain ⟨hx, hb, hml, hrr, hlocks, hown, hnm, hts, hI, hlt, hxt, hdf, hdl⟩ := id X
  have hl32 : (hk w a).1 < 32 := by rw [hkd]; show 16 < 32; omega
  exact va_castA hx hb hown (hts _ w1) (mPic_one hP hl32 (mE_ai (G := G) hkd (by decide) (by decide) (by decide))) 0 rfl (m_isI hI) hd (kk p l e R s m args below meth c H locs cells slots mc ms ls X h1 h2 h3 h4 hS hP hl)
theorem mW_scr {i : Int32} (hd : decode M.2.1 pc = .ok (.iaload, 1)) (hin : vp_in i (G.2.2.2 6)) (kk : mW G M d kc ks (pc + 1) lv (.int (mScr G i.toNatClampNeg) :: st) w Φ) : mW G M d kc ks pc lv (.int i :: .ref (G.2.2.2 5) :: st) w Φ := by
  intro p l e R s m args below meth c H locs cells slots mc ms ls X h1 h2 h3 h4 hS hP hl
  obtain ⟨hx, hb, hml, hrr, hlocks, hown, hnm, hts, hI, hlt, hxt, hdf, hdl⟩ := id X
  have hX := hI.2.2.2.1.2.2.1
  have hbl : G.2.2.2 5 < s.heap.size := by
    obtain ⟨scr, j1, -⟩ := hX.1
    exact (Array.getElem?_eq_some_iff.mp j1).1
  exact va_sld hx hb hX.1 hbl hX.2 hS hin hd (kk p l e R s m args below meth c H locs cells slots mc ms ls X h1 h2 h3 h4 hS hP hl)
theorem mW_scrlen (hd : decode M.2.1 pc = .ok (.arraylength, 1)) (kk : mW G M d kc ks (pc + 1) lv (.int (nI (G.2.2.2 6)) :: st) w Φ) : mW G M d kc ks pc lv (.ref (G.2.2.2 5) :: st) w Φ := by
  intro p l e R s m args below meth c H locs cells slots mc ms ls X h1 h2 h3 h4 hS hP hl
  obtain ⟨hx, hb, hml, hrr, hlocks, hown, hnm, hts, hI, hlt, hxt, hdf, hdl⟩ := id X
  have hX := hI.2.2.2.1.2.2.1
  have hbl : G.2.2.2 5 < s.heap.size := by
    obtain ⟨scr, j1, -⟩ := hX.1
    exact (Array.getElem?_eq_some_iff.mp j1).1
  exact va_slen hx hb hX.1 hbl hX.2 hS hd (kk p l e R s m args below meth c H locs cells slots mc ms ls X h1 h2 h3 h4 hS hP hl)
theorem mW_getsZ {idx : Nat} (hd : decode M.2.1 pc = .ok (.getstatic idx, 3)) (w1 : Cond.fieldLink M.1.cls idx "java/lang/String" "COMPACT_STRINGS" "Z" ∈ mTs) (kk : mW G M d kc ks (pc + 3) lv (.int 1 :: st) w Φ) : mW G M d kc ks pc lv st w Φ := by
  intro p l e R s m args below meth c H locs cells slots mc ms ls X h1 h2 h3 h4 hS hP hl
  obtain ⟨hx, hb, hml, hrr, hlocks, hown, hnm, hts, hI, hlt, hxt, hdf, hdl⟩ := id X
  exact va_gets hx hb hI.2.2.2.1.1 hS hown (hts _ w1) (fun _ h => h) hd (kk p l e R s m args below meth c H locs cells slots mc ms ls X h1 h2 h3 h4 hS hP hl)
theorem mW_getsF {idx : Nat} (hd : decode M.2.1 pc = .ok (.getstatic idx, 3)) (w1 : Cond.fieldLink M.1.cls idx "jdk/internal/util/Preconditions" "SIOOBE_FORMATTER" "Ljava/util/function/BiFunction;" ∈ mTs) (kk : ∀ v : Option Nat, mW G M d kc ks (pc + 3) lv (va_rf v :: st) w Φ) : mW G M d kc ks pc lv st w Φ := by
  intro p l e R s m args below meth c H locs cells slots mc ms ls X h1 h2 h3 h4 hS hP hl
  obtain ⟨hx, hb, hml, hrr, hlocks, hown, hnm, hts, hI, hlt, hxt, hdf, hdl⟩ := id X
  rcases hI.2.2.2.1.2.2.2.1 with hz | ⟨t, hz⟩
  · exact va_gets hx hb hz hS hown (hts _ w1) (fun _ h => h) hd (kk none p l e R s m args below meth c H locs cells slots mc ms ls X h1 h2 h3 h4 hS hP hl)
  · exact va_gets hx hb hz hS hown (hts _ w1) (fun _ h => h) hd (kk (some t) p l e R s m args below meth c H locs cells slots mc ms ls X h1 h2 h3 h4 hS hP hl)
theorem mW_sbald {i : Nat} {j : Int32} (hd : decode M.2.1 pc = .ok (.baload, 1)) (hi : 3 ≤ i) (hi5 : i < 5) (hin : vp_in j 100) (kk : mW G M d kc ks (pc + 1) lv (.int ((mSv i).getD j.toNatClampNeg 0) :: st) w Φ) : mW G M d kc ks pc lv (.int j :: .ref (G.2.2.2 i) :: st) w Φ := by
  intro p l e R s m args below meth c H locs cells slots mc ms ls X h1 h2 h3 h4 hS hP hl
  obtain ⟨hx, hb, hml, hrr, hlocks, hown, hnm, hts, hI, hlt, hxt, hdf, hdl⟩ := id X
  have hT := (hI.2.2.1 i (by omega)).2
  rcases (show i = 3 ∨ i = 4 by omega) with rfl | rfl
  · exact va_tb hx hb hT hS (by rw [show (mSv 3).length = 100 from by decide +kernel]; exact hin) rfl hd (kk p l e R s m args below meth c H locs cells slots mc ms ls X h1 h2 h3 h4 hS hP hl)
  · exact va_tb hx hb hT hS (by rw [show (mSv 4).length = 100 from by decide +kernel]; exact hin) rfl hd (kk p l e R s m args below meth c H locs cells slots mc ms ls X h1 h2 h3 h4 hS hP hl)
/-- an inherited method of class C, public, or private in the superclass -/
def mLinkU (own : String) (idx n : Nat) (M' : mM) (C : String) : Prop := mDesc M'.1 n ∧ mCode M' ∧ Cond.methodLink own idx M'.1 ∈ mTs ∧ Cond.instanceMethod M'.1 ∈ mTs ∧ Cond.sameMethod M'.1.cls M'.1.cls M'.1.name M'.1.desc ∈ mTs ∧ (Cond.selects C M'.1 M'.1 ∈ mTs ∨ (Cond.privateMethod M'.1 ∈ lw_tbl ∧ ∃ z : MethodName, z.cls = M'.1.cls ∧ Cond.selects C z z ∈ mTs))
theorem m_selU {own C : String} {idx n : Nat} {args : Array Value} {s : State} (hts : ∀ w ∈ mTs, w.before args s = true) (hpv : ∀ w ∈ lw_tbl, mNest w = true → va_Nw w s) (h : mLinkU own idx n M' C) : (Cond.selects C M'.1 M'.1).before args s = true := by
  obtain ⟨hde, hco, hlk, hins, hsm, hsel⟩ := h
  rcases hsel with h | ⟨hpr, z, hz, hs⟩
  · exact hts _ h
  · obtain ⟨c, r, m, hc, -, hm, -, kk, hkk, hnif⟩ := Cond.selects_spec (hts _ hs)
    obtain ⟨mk, methM, hnamed, hmethM, -, -⟩ := Cond.instanceMethod_spec (hts _ hins)
    have hfound : s.methodFound? M'.1.cls M'.1.name M'.1.desc = some mk := State.methodFound?_of_named hnamed ⟨hde.1, hde.2.1⟩
    have hcls : mk.cls = m.cls := by
      have e1 := findClass_of_methodNamed hnamed
      have e2 := findClass_of_methodNamed hm
      rw [hz] at e2
      exact Option.some.inj (e1.symm.trans e2)
    have hsel : selectMethod {} s.vm c mk = .method mk := selectMethod_private hmethM (Cond.privateMethod_at (va_Nw.use (A := args) rfl (hpv _ hpr rfl)) mk methM hnamed hmethM)
    simp only [Cond.before, Cond.holds, Cond.value, hc, hfound, hnamed, hsel, hcls, hkk]
    simp
    exact hnif
theorem mW_callU {idx n : Nat} {b : Nat} {C : String} (hd : decode M.2.1 pc = .ok (.invokevirtual idx, 3)) (hF : mLinkU M.1.cls idx n M' C) (hn : As.length = n) {ci : Nat} {T : u_T} {N : Nat} (hkd : hk w b = (ci, 0)) (hc : mCl[ci]? = some (C, T, N)) (h16 : ci < 16) (hC : mC G M' d' kc' ks' (.ref b :: As) w Ψ) (hr : (rest.map fun v => v.category).sum ≤ 8) (hdd : d' + 1 ≤ d) (hk1 : kc' + kc2 = kc) (hk2 : ks' + ks2 = ks) (kx : ∀ E w', ¬ Ψ (.inr E) w') (kk : ∀ v w', Ψ (.inl v) w' → mW G M d kc2 ks2 (pc + 3) lv (v.toList ++ rest) w' Φ) : mW G M d kc ks pc lv (As.reverse ++ .ref b :: rest) w Φ := by
  intro p l e R s m args below meth c H locs cells slots mc ms ls X h1 h2 h3 h4 hS hP hl
  obtain ⟨hx, hb, hml, hrr, hlocks, hown, hnm, hts, hI, hlt, hxt, hdf, hdl⟩ := id X
  have hsel := m_selU hts hI.2.2.2.2.2.2.2 hF
  obtain ⟨hde, hco, hlk, hins, hsm, -⟩ := hF
  subst hk1
  subst hk2
  have hcU : va_CU R s args M.1.cls C M'.1.cls idx M'.1 M'.1 M'.2.1 M'.2.2.1 M'.2.2.2.1 (mws M') ({ frames := d', cells := kc', slots := ks', locals := 100 * d' }) kc' ks' n := by
    have hG : GoodIn mTs (mws M') := mTs_good (mws_in hco)
    have hc' : Cond.code M'.1 M'.2.1 M'.2.2.1 M'.2.2.2.1 ∈ mws M' := List.mem_cons_self
    refine ⟨⟨rfl, rfl, by show d' + 1 ≤ _; omega, by show 8 + (M'.2.2.1 + 11) + 100 * d' ≤ _; have := hco.2.2; omega, pay_in hts hG, hc'⟩, hts _ hco.1, hts _ hco.2.1, ⟨hde.1, hde.2.1⟩, fun sig h => ?_, hts _ hlk, hts _ hsm, va_Decl.of (hts _ hins) (hts _ hco.1), hsel, hts _ hins⟩
    have h2 := hde.2.2
    rw [h] at h2
    exact (Option.some.inj h2).symm
  refine m_run (Ψ := Ψ) (kc' := kc') (ks' := ks') (rest := rest) (vx_runU (Pc := mPc G (.ref b :: As) w) (As := As) (rest := rest) (n := n) (Ts := mTs) ⟨hx, hb, hml, hown, hts⟩ (hC l hlt) hcU ⟨mPc_blind, va_recv hI.1 (mPic_one hP (by rw [hkd]; show ci < 32; omega) (mE_ob hkd h16)) hc (q0 := 0) rfl, fun U hU hW => ⟨rfl, mInv_at hI hW hS hU, by rw [hU]; exact hP⟩⟩ rfl hn hl.1 rfl (lv_room hr) hd ⟨by omega, by omega⟩) X h1 h2 h3 h4 hS hl kx kk
def mLinkSU (own : String) (idx n : Nat) (M' : mM) : Prop := mDesc M'.1 n ∧ mCode M' ∧ Cond.methodLink own idx M'.1 ∈ mTs ∧ Cond.instanceMethod M'.1 ∈ mTs ∧ Cond.sameMethod M'.1.cls M'.1.cls M'.1.name M'.1.desc ∈ mTs ∧ Cond.superclass own M'.1.cls ∈ mTs ∧ M'.1.name ≠ "<init>"
theorem mW_callSU {idx n : Nat} {b : Nat} {C : String} (hd : decode M.2.1 pc = .ok (.invokespecial idx, 3)) (hF : mLinkSU M.1.cls idx n M') (hn : As.length = n) {ci : Nat} {T : u_T} {N : Nat} (hkd : hk w b = (ci, 0)) (hc : mCl[ci]? = some (C, T, N)) (h16 : ci < 16) (hC : mC G M' d' kc' ks' (.ref b :: As) w Ψ) (hr : (rest.map fun v => v.category).sum ≤ 8) (hdd : d' + 1 ≤ d) (hk1 : kc' + kc2 = kc) (hk2 : ks' + ks2 = ks) (kx : ∀ E w', ¬ Ψ (.inr E) w') (kk : ∀ v w', Ψ (.inl v) w' → mW G M d kc2 ks2 (pc + 3) lv (v.toList ++ rest) w' Φ) : mW G M d kc ks pc lv (As.reverse ++ .ref b :: rest) w Φ := by
  intro p l e R s m args below meth c H locs cells slots mc ms ls X h1 h2 h3 h4 hS hP hl
  obtain ⟨hx, hb, hml, hrr, hlocks, hown, hnm, hts, hI, hlt, hxt, hdf, hdl⟩ := id X
  obtain ⟨hde, hco, hlk, hins, hsm, hsu, hni⟩ := hF
  subst hk1
  subst hk2
  have hcS : va_CS R s args M.1.cls idx M'.1 M'.2.1 M'.2.2.1 M'.2.2.2.1 (mws M') ({ frames := d', cells := kc', slots := ks', locals := 100 * d' }) kc' ks' n := by
    have hG : GoodIn mTs (mws M') := mTs_good (mws_in hco)
    have hc' : Cond.code M'.1 M'.2.1 M'.2.2.1 M'.2.2.2.1 ∈ mws M' := List.mem_cons_self
    refine ⟨⟨rfl, rfl, by show d' + 1 ≤ _; omega, by show 8 + (M'.2.2.1 + 11) + 100 * d' ≤ _; have := hco.2.2; omega, pay_in hts hG, hc'⟩, hts _ hlk, hts _ hsm, hts _ hsu, hts _ hins, hts _ hco.2.1, hts _ hco.1, hni, fun sig h => ?_⟩
    have h2 := hde.2.2
    rw [h] at h2
    exact (Option.some.inj h2).symm
  refine m_run (Ψ := Ψ) (kc' := kc') (ks' := ks') (rest := rest) (vx_runSU (hI.1.1 ci _ hc).2 (Pc := mPc G (.ref b :: As) w) (As := As) (rest := rest) (n := n) (Ts := mTs) ⟨hx, hb, hml, hown, hts⟩ (hC l hlt) hcS ⟨mPc_blind, va_recv hI.1 (mPic_one hP (by rw [hkd]; show ci < 32; omega) (mE_ob hkd h16)) hc (q0 := 0) rfl, fun U hU hW => ⟨rfl, mInv_at hI hW hS hU, by rw [hU]; exact hP⟩⟩ rfl hn hl.1 rfl (lv_room hr) hd ⟨by omega, by omega⟩) X h1 h2 h3 h4 hS hl kx kk
end M14
/-- a call's end that says the answer, and of the world behind it only Q -/
def mP (v : Option Value) (Q : mH → Prop) : mF := fun o w' => o = .inl v ∧ Q w'
theorem mP_x {v : Option Value} {Q : mH → Prop} : ∀ E w', ¬ mP v Q (.inr E) w' := fun E w' h => by cases h.1
theorem mP_k {v : Option Value} {Q : mH → Prop} {P : Option Value → mH → Prop} (k : ∀ w', Q w' → P v w') : ∀ v' w', mP v Q (.inl v') w' → P v' w' := fun v' w' h => by obtain ⟨h1, h2⟩ := h; cases h1; exact k w' h2
theorem mP_of {v : Option Value} {Q : mH → Prop} {w : mH} (h : Q w) : mP v Q (.inl v) w := ⟨rfl, h⟩
/-- the shape of a world: kinds and references -/
def mSh (w w' : mH) : Prop := hk w' = hk w ∧ hfr w' = hfr w ∧ har w' = har w ∧ hN w' = hN w
/-- outside [lo, hi) nothing has changed; the shape nowhere -/
def mFr (lo hi : Nat) (w w' : mH) : Prop := mSh w w' ∧ ∀ a, (a < lo ∨ hi ≤ a) → hfi w' a = hfi w a ∧ hfl w' a = hfl w a ∧ hai w' a = hai w a ∧ hal w' a = hal w a
theorem mSh.rf {w : mH} : mSh w w := ⟨rfl, rfl, rfl, rfl⟩
theorem mSh.tr {w w1 w2 : mH} (h : mSh w w1) (g : mSh w1 w2) : mSh w w2 := ⟨g.1.trans h.1, g.2.1.trans h.2.1, g.2.2.1.trans h.2.2.1, g.2.2.2.trans h.2.2.2⟩
theorem mFr.rf {lo hi : Nat} {w : mH} : mFr lo hi w w := ⟨mSh.rf, fun a _ => ⟨rfl, rfl, rfl, rfl⟩⟩
theorem mFr.tr {lo hi : Nat} {w w1 w2 : mH} (h : mFr lo hi w w1) (g : mFr lo hi w1 w2) : mFr lo hi w w2 := ⟨h.1.tr g.1, fun a ha => ⟨(g.2 a ha).1.trans (h.2 a ha).1, (g.2 a ha).2.1.trans (h.2 a ha).2.1, (g.2 a ha).2.2.1.trans (h.2 a ha).2.2.1, (g.2 a ha).2.2.2.trans (h.2 a ha).2.2.2⟩⟩
theorem mFr.wide {lo hi l h : Nat} {w w1 : mH} (f : mFr lo hi w w1) (h1 : l ≤ lo) (h2 : hi ≤ h) : mFr l h w w1 := ⟨f.1, fun a ha => f.2 a (by omega)⟩
theorem mFr.trw {lo hi l1 h1 l2 h2 : Nat} {w w1 w2 : mH} (h : mFr l1 h1 w w1) (g : mFr l2 h2 w1 w2) (q1 : lo ≤ l1) (q2 : h1 ≤ hi) (q3 : lo ≤ l2) (q4 : h2 ≤ hi) : mFr lo hi w w2 := (h.wide q1 q2).tr (g.wide q3 q4)
theorem mFr_sfi {lo hi a k : Nat} {v : Int32} {w w1 : mH} (h : mFr lo hi w w1) (q1 : lo ≤ a) (q2 : a < hi) : mFr lo hi w (sfi w1 a k v) := h.tr ⟨⟨rfl, rfl, rfl, rfl⟩, fun b hb => by
  simp only [hfi_sfi, hfl_sfi, hai_sfi, hal_sfi]
  have hb1 : b ≠ a := by omega
  exact ⟨by first | trivial | exact up2_a _ _ _ hb1, by first | trivial | exact up2_a _ _ _ hb1, by first | trivial | exact up2_a _ _ _ hb1, by first | trivial | exact up2_a _ _ _ hb1⟩⟩
theorem mFr_sfl {lo hi a k : Nat} {v : Int64} {w w1 : mH} (h : mFr lo hi w w1) (q1 : lo ≤ a) (q2 : a < hi) : mFr lo hi w (sfl w1 a k v) := h.tr ⟨⟨rfl, rfl, rfl, rfl⟩, fun b hb => by
  simp only [hfi_sfl, hfl_sfl, hai_sfl, hal_sfl]
  have hb1 : b ≠ a := by omega
  exact ⟨by first | trivial | exact up2_a _ _ _ hb1, by first | trivial | exact up2_a _ _ _ hb1, by first | trivial | exact up2_a _ _ _ hb1, by first | trivial | exact up2_a _ _ _ hb1⟩⟩
theorem mFr_sai {lo hi a k : Nat} {v : Int32} {w w1 : mH} (h : mFr lo hi w w1) (q1 : lo ≤ a) (q2 : a < hi) : mFr lo hi w (sai w1 a k v) := h.tr ⟨⟨rfl, rfl, rfl, rfl⟩, fun b hb => by
  simp only [hfi_sai, hfl_sai, hai_sai, hal_sai]
  have hb1 : b ≠ a := by omega
  exact ⟨by first | trivial | exact up2_a _ _ _ hb1, by first | trivial | exact up2_a _ _ _ hb1, by first | trivial | exact up2_a _ _ _ hb1, by first | trivial | exact up2_a _ _ _ hb1⟩⟩
theorem mFr_sal {lo hi a k : Nat} {v : Int64} {w w1 : mH} (h : mFr lo hi w w1) (q1 : lo ≤ a) (q2 : a < hi) : mFr lo hi w (sal w1 a k v) := h.tr ⟨⟨rfl, rfl, rfl, rfl⟩, fun b hb => by
  simp only [hfi_sal, hfl_sal, hai_sal, hal_sal]
  have hb1 : b ≠ a := by omega
  exact ⟨by first | trivial | exact up2_a _ _ _ hb1, by first | trivial | exact up2_a _ _ _ hb1, by first | trivial | exact up2_a _ _ _ hb1, by first | trivial | exact up2_a _ _ _ hb1⟩⟩
theorem mFr_sax {lo hi a : Nat} {g : Nat → Int32} {w w1 : mH} (h : mFr lo hi w w1) (q1 : lo ≤ a) (q2 : a < hi) : mFr lo hi w (sax w1 a g) := h.tr ⟨⟨rfl, rfl, rfl, rfl⟩, fun b hb => ⟨rfl, rfl, va_up_ne _ _ (by omega), rfl⟩⟩
theorem mFr.hfi {lo hi a : Nat} {w w1 : mH} (h : mFr lo hi w w1) (q : a < lo ∨ hi ≤ a) : hfi w1 a = hfi w a := (h.2 a q).1
theorem mFr.hfl {lo hi a : Nat} {w w1 : mH} (h : mFr lo hi w w1) (q : a < lo ∨ hi ≤ a) : hfl w1 a = hfl w a := (h.2 a q).2.1
theorem mFr.hai {lo hi a : Nat} {w w1 : mH} (h : mFr lo hi w w1) (q : a < lo ∨ hi ≤ a) : hai w1 a = hai w a := (h.2 a q).2.2.1
theorem mFr.hal {lo hi a : Nat} {w w1 : mH} (h : mFr lo hi w w1) (q : a < lo ∨ hi ≤ a) : hal w1 a = hal w a := (h.2 a q).2.2.2
section M14L
variable {G : mG} {M : mM} {d kc ks pc : Nat} {lv : List (Nat × Value)} {st : List Value} {w : mH} {Φ : mF}
theorem mW_iaddL {x y v : Int32} (hd : decode M.2.1 pc = .ok (.iadd, 1)) (hv : x + y = v) (k : mW G M d kc ks (pc + 1) lv (.int v :: st) w Φ) : mW G M d kc ks pc lv (.int y :: .int x :: st) w Φ := by subst hv; exact mW_iadd hd k
theorem mW_isubL {x y v : Int32} (hd : decode M.2.1 pc = .ok (.isub, 1)) (hv : x - y = v) (k : mW G M d kc ks (pc + 1) lv (.int v :: st) w Φ) : mW G M d kc ks pc lv (.int y :: .int x :: st) w Φ := by subst hv; exact mW_isub hd k
theorem mW_imulL {x y v : Int32} (hd : decode M.2.1 pc = .ok (.imul, 1)) (hv : x * y = v) (k : mW G M d kc ks (pc + 1) lv (.int v :: st) w Φ) : mW G M d kc ks pc lv (.int y :: .int x :: st) w Φ := by subst hv; exact mW_imul hd k
theorem mW_ishlL {x y v : Int32} (hd : decode M.2.1 pc = .ok (.ishl, 1)) (hv : x <<< (y &&& 31) = v) (k : mW G M d kc ks (pc + 1) lv (.int v :: st) w Φ) : mW G M d kc ks pc lv (.int y :: .int x :: st) w Φ := by subst hv; exact mW_ishl hd k
theorem mW_ishrL {x y v : Int32} (hd : decode M.2.1 pc = .ok (.ishr, 1)) (hv : x >>> (y &&& 31) = v) (k : mW G M d kc ks (pc + 1) lv (.int v :: st) w Φ) : mW G M d kc ks pc lv (.int y :: .int x :: st) w Φ := by subst hv; exact mW_ishr hd k
theorem mW_inegL {x v : Int32} (hd : decode M.2.1 pc = .ok (.ineg, 1)) (hv : -x = v) (k : mW G M d kc ks (pc + 1) lv (.int v :: st) w Φ) : mW G M d kc ks pc lv (.int x :: st) w Φ := by subst hv; exact mW_ineg hd k
end M14L
theorem mW_nm {G : mG} {M : mM} {d kc ks pc : Nat} {lv : List (Nat × Value)} {st : List Value} {w : mH} {Φ : mF} (k : ∀ w2, w2 = w → mW G M d kc ks pc lv st w2 Φ) : mW G M d kc ks pc lv st w Φ := k w rfl
def mS2 (w w' : mH) : Prop := hk w' = hk w ∧ hfr w' = hfr w
theorem mS2.of {w w' : mH} (h : mSh w w') : mS2 w w' := ⟨h.1, h.2.1⟩
theorem s2k {w w' : mH} (h : mS2 w w') {b : Nat} {x : Nat × Nat} (g : hk w b = x) : hk w' b = x := by rw [h.1]; exact g
theorem s2r {w w' : mH} (h : mS2 w w') {b j : Nat} {x : Option Nat} (g : hfr w b j = x) : hfr w' b j = x := by rw [h.2]; exact g
theorem S2_sfi {w w' : mH} {a k : Nat} {v : Int32} (e : w' = sfi w a k v) : mS2 w w' := by subst e; exact ⟨rfl, rfl⟩
theorem S2_sfl {w w' : mH} {a k : Nat} {v : Int64} (e : w' = sfl w a k v) : mS2 w w' := by subst e; exact ⟨rfl, rfl⟩
theorem S2_sai {w w' : mH} {a k : Nat} {v : Int32} (e : w' = sai w a k v) : mS2 w w' := by subst e; exact ⟨rfl, rfl⟩
theorem S2_sal {w w' : mH} {a k : Nat} {v : Int64} (e : w' = sal w a k v) : mS2 w w' := by subst e; exact ⟨rfl, rfl⟩
theorem S2_sax {w w' : mH} {a : Nat} {g : Nat → Int32} (e : w' = sax w a g) : mS2 w w' := by subst e; exact ⟨rfl, rfl⟩
theorem S2_def {w w' w2 : mH} (e : w' = w2) (h1 : hk w2 = hk w) (h2 : hfr w2 = hfr w) : mS2 w w' := by subst e; exact ⟨h1, h2⟩
