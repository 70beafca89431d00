theorem u105 : (Cond.classLink "LineFollowerBenchLaw" 8 "LineFollowerBench" : Cond) ∈ mTs := mTs_in 105 (by decide +kernel) (by decide +kernel)
theorem mk_L_8 : mMk "LineFollowerBenchLaw" 8 10 12 := ⟨RX10, TX10, tyX10, rfl, in_X10, tyX10_ok, u105, u106, u70, by decide, mk0_X10⟩
theorem u1553 : (Cond.classLink "LineFollowerBenchLaw" 111 "LineFollowerBenchModel" : Cond) ∈ mTs := mTs_in 1553 (by decide +kernel) (by decide +kernel)
theorem mk_L_111 : mMk "LineFollowerBenchLaw" 111 11 36 := ⟨RX11, TX11, tyX11, rfl, in_X11, tyX11_ok, u1553, u1554, u85, by decide, mk0_X11⟩
theorem u109 : (Cond.code ⟨"LineFollowerBench", "<init>", "()V"⟩ prog_1_method_1_code 1 (none : Option ClassFile.FieldType) : Cond) ∈ mTs := mTs_in 109 (by decide +kernel) (by decide +kernel)
theorem co_X10_init : mCode mX10_init := ⟨u109, u70, by decide⟩
theorem u107 : (Cond.methodLink "LineFollowerBenchLaw" 110 ⟨"LineFollowerBench", "<init>", "()V"⟩ : Cond) ∈ mTs := mTs_in 107 (by decide +kernel) (by decide +kernel)
theorem u108 : (Cond.instanceMethod ⟨"LineFollowerBench", "<init>", "()V"⟩ : Cond) ∈ mTs := mTs_in 108 (by decide +kernel) (by decide +kernel)
theorem l_L_110 : mLinkI "LineFollowerBenchLaw" 110 0 mX10_init := ⟨⟨by decide, by decide, by decide +kernel⟩, co_X10_init, u107, u108, rfl, rfl⟩
theorem u1557 : (Cond.code ⟨"LineFollowerBenchModel", "<init>", "()V"⟩ prog_13_method_2_code 2 (none : Option ClassFile.FieldType) : Cond) ∈ mTs := mTs_in 1557 (by decide +kernel) (by decide +kernel)
theorem co_X11_init : mCode mX11_init := ⟨u1557, u85, by decide⟩
theorem u1555 : (Cond.methodLink "LineFollowerBenchLaw" 113 ⟨"LineFollowerBenchModel", "<init>", "()V"⟩ : Cond) ∈ mTs := mTs_in 1555 (by decide +kernel) (by decide +kernel)
theorem u1556 : (Cond.instanceMethod ⟨"LineFollowerBenchModel", "<init>", "()V"⟩ : Cond) ∈ mTs := mTs_in 1556 (by decide +kernel) (by decide +kernel)
theorem l_L_113 : mLinkI "LineFollowerBenchLaw" 113 0 mX11_init := ⟨⟨by decide, by decide, by decide +kernel⟩, co_X11_init, u1555, u1556, rfl, rfl⟩
theorem law_0 {G : mG} {nm : String} {kc ks : Nat} {w : mH} {Φ : mF} (k : mW G (mL_law nm) 11 kc ks 23 [(0, .ref (G.2.2.2 5)), (1, .ref (hN w)), (2, .ref (hN w + 194)), (3, .ref (hN w + 194 + 22)), (4, .int (nI 0))] [] (wR (hN w) qL w) Φ) : mW G (mL_law nm) 11 (kc + 217) (ks + 9889) 0 [(0, .ref (G.2.2.2 5))] [] w Φ := by
  refine mW_new (ci := 10) (N := 12) (kc2 := kc + 216) (ks2 := ks + 9877) dL_law_0 mk_L_8 (by omega) (by omega) ?_
  refine mW_ws (st2 := [.ref (hN w)]) (w2 := wR (hN w) (q0 10) w) rfl R_0 ?_
  refine mW_dup dL_law_3 rfl ?_
  refine mW_callIe (As := []) (rest := [.ref (hN w)]) (b := hN w) (kc2 := kc + 23) (ks2 := ks + 3857) (v := none) (w2 := wR (hN w) qX10_init_23 w) dL_law_4 l_L_110 rfl iX10_init (Nat.le_of_ble_eq_true rfl) (by decide) (by omega) (by omega) ?_
  refine mW_astore_n (lv2 := [(1, .ref (hN w)), (0, .ref (G.2.2.2 5))]) dL_law_7 rfl (Nat.le_of_ble_eq_true rfl) rfl ?_
  refine mW_new (ci := 11) (N := 36) (kc2 := kc + 22) (ks2 := ks + 3821) dL_law_8 mk_L_111 (by omega) (by omega) ?_
  refine mW_ws (st2 := [.ref (hN w + 194)]) (w2 := wR (hN w + 194) (q0 11) (wR (hN w) qX10_init_23 w)) rfl R_0 ?_
  refine mW_dup dL_law_11 rfl ?_
  refine mW_callIe (As := []) (rest := [.ref (hN w + 194)]) (b := hN w + 194) (kc2 := kc + 1) (ks2 := ks + 1) (v := none) (w2 := wR (hN w + 194) qX11_init_111 (wR (hN w) qX10_init_23 w)) dL_law_12 l_L_113 rfl iX11_init (Nat.le_of_ble_eq_true rfl) (by decide) (by omega) (by omega) ?_
  refine mW_astore_n (lv2 := [(2, .ref (hN w + 194)), (1, .ref (hN w)), (0, .ref (G.2.2.2 5))]) dL_law_15 rfl (Nat.le_of_ble_eq_true rfl) rfl ?_
  refine mW_iconst (v := 1) dL_law_16 (by decide) ?_
  refine mW_newJ (N := 1) (kc2 := kc) (ks2 := ks) dL_law_17 u419 (by decide) rfl (by decide) (by omega) (by omega) ?_
  refine mW_ws (st2 := [.ref (hN w + 194 + 22)]) (w2 := wR (hN w) qL w) rfl ((congrArg (fun x => snew x (17, 1)) (R_P (b := hN w) (Q := qX10_init_23) (Q' := qX11_init_111) (w := w))).trans R_N) ?_
  refine mW_astore_n (lv2 := [(3, .ref (hN w + 194 + 22)), (2, .ref (hN w + 194)), (1, .ref (hN w)), (0, .ref (G.2.2.2 5))]) dL_law_19 rfl (Nat.le_of_ble_eq_true rfl) rfl ?_
  refine mW_iconst (v := 0) dL_law_20 (by decide) ?_
  refine mW_istore (lv2 := [(4, .int 0), (3, .ref (hN w + 194 + 22)), (2, .ref (hN w + 194)), (1, .ref (hN w)), (0, .ref (G.2.2.2 5))]) dL_law_21 (Nat.le_of_ble_eq_true rfl) rfl ?_
  refine mW_loc [4, 3, 2, 1, 0] (lv2 := [(0, .ref (G.2.2.2 5)), (1, .ref (hN w)), (2, .ref (hN w + 194)), (3, .ref (hN w + 194 + 22)), (4, .int 0)]) rfl ?_
  exact k
theorem whole_start {p : Program} {e : Env} {s : State} {m : MethodId} {below : List Frame} {meth : Method} {c : Code} (l : Launch) (hflags : l.flags = flags0) {b L : Nat} {xs : Nat → Int32} (hL : L ≤ 2560) (C0 : lw_At p s m meth c b L xs) : W p l e room_1 s m #[Value.ref b] below meth c s.heap [] 0 0 (lw_Z below #[Value.ref b] s) (entryFrame m ([Value.ref b] : List Value).toArray 8) := by
  obtain ⟨G, g1, g2, g3, g4, hI⟩ := m_start C0
  obtain ⟨hx, hcode, hret, hml, hcls, hlw, hX, hbl, hlocks, hgv⟩ := id C0
  have hst : l.stackTraces = false := by unfold Launch.stackTraces; rw [hflags]; decide +kernel
  have hL' : G.2.2.2 6 ≤ 2560 := by rw [g3]; exact hL
  obtain ⟨w, hw⟩ : ∃ w : mH, w = (s.heap.size, fun _ => (32, 0), fun _ _ => 0, fun _ _ => 0, fun _ _ => none, fun _ _ => 0, fun _ _ => 0, fun _ _ => none) := ⟨_, rfl⟩
  have hP : mPic G w s.heap := by
    subst hw
    exact ⟨fun a h => absurd h (Nat.lt_irrefl 32), fun a h => absurd h (Nat.lt_irrefl 32), rfl, by rw [g1]; exact Nat.le_refl _⟩
  have k : mW G (mL_law meth.name) 11 601024 7293034 0 [(0, .ref (G.2.2.2 5))] [] w (mP (some (.int 1)) (fun _ => True)) := by
    refine mW_more (kc := 84 * 512 + 217) (ks := 11792 * 512 + 9889) (by omega) (by omega) (law_0 ?_)
    exact law_L (b := hN w + 194) hL' (fun w _ => ⟨rfl, trivial⟩) 512 0 _ (by omega) (by decide) gI_0
  have hctx : mCtx G (mL_law meth.name) p l room_1 s m #[Value.ref b] meth c 11 := ⟨hx, hcode, hml, hret, hlocks, hcls, rfl, fun q hq => hlw q (List.mem_filter.mp hq).1, hI, hst, fun h => absurd rfl h, by decide, by decide⟩
  rw [lg_entry_eq]
  intro T hT X
  obtain ⟨t, a1, o, b1, b2, b3⟩ := k p l e room_1 s m #[Value.ref b] below meth c s.heap [] 0 0 601024 7293034 _ hctx (by omega) (by omega) (Nat.le_refl _) (Nat.le_refl _) va_S.rf hP (by rw [g2]; exact lv_entry [Value.ref b] (Nat.le_of_ble_eq_true rfl)) T hT X
  refine ⟨t, a1, o, b1, b2, ?_⟩
  rcases b3 with ⟨⟨v, w', ho, ⟨hv, -⟩, -, -⟩, L', hF, hfree⟩ | ⟨q, ho, E, ce, L', ⟨w', hE, -⟩, -⟩
  · have ev : v = some (.int 1) := Sum.inl.inj hv
    subst ev
    have hs := State.sameButNew.drop_fresh (L := []) (J := L') hF.2.2 (fun x hx => by have h := hfree x hx; unfold mA at h; rw [g1] at h; exact h)
    exact ⟨ho, lw_closed (d0 := s.drawn) (Drawn.sameBut.refl s.drawn lw_cs) ⟨_, ho⟩ hF.2.1 hs⟩
  · obtain ⟨hE, -⟩ := hE
    cases hE
set_option maxHeartbeats 4000000 in
theorem lw_walk (l : Launch) (hflags : l.flags = flags0) (b : Addr) (xs : List Int32) : MetFree l x (headSpec (Jvm.Cond.code x code maxLocals ret :: tables_1) room_1) (lw_P b xs) (fun _ _ _ _ _ => True) lw_Q := by
  refine MetFree.of_bodyS (code := code) (maxLocals := maxLocals) (ret := ret) (by decide) ?_ ?_
  · intro args s m h hn
    obtain ⟨meth, c, h1, h2, h3, h4, h5, h6, -, -⟩ := Cond.code_spec hn (atoms_spec (ws := Jvm.Cond.code x code maxLocals ret :: tables_1) h _ List.mem_cons_self)
    exact ⟨meth, c, h1, h2, h3, h4, h5, h6⟩
  · intro p e s m args below meth c s₁ B hml0 hP _
    obtain ⟨rfl, hx, hbd, hgv⟩ := hP
    obtain ⟨scr, harrAt, hlist, hof, hsmall⟩ := hx
    obtain ⟨hcb, hkn, -, -⟩ := State.arrayAt?_spec harrAt
    have hown : s.vm.findClass R_law = some m.cls := findClass_of_methodNamed B.named
    have hts0 : ∀ c ∈ (Jvm.Cond.code x code maxLocals ret :: tables_1), c.before #[Value.ref b] s = true := atoms_spec (ws := Jvm.Cond.code x code maxLocals ret :: tables_1) B.pre
    have hts : ∀ w ∈ lw_tbl, w.before #[Value.ref b] s = true := k2_hts_sels lw_privs (fun w hw => hts0 w (List.mem_cons_of_mem _ hw)) lw_privs_ok
    have hml : c.maxLocals = 8 := B.maxLocals_eq (hts0 _ List.mem_cons_self)
    have X₀ : Stand p l e room_1 s m #[Value.ref b] below meth c s₁ [] 0 0 := Stand.of_body B
    have hh0 : s₁.heap = s.heap := by rw [B.state]; rfl
    have hsz : scr.slots.size = xs.length := by rw [← Array.length_toList, hlist, List.length_map]
    have hval : ∀ j : Nat, j < xs.length → scr.slots[j]? = some (.int (xs.getD j 0)) := fun j hj => by
      rw [← Array.getElem?_toList, hlist]
      simp [hj]
    have hbl : b < s.heap.size := (Array.getElem?_eq_some_iff.mp hcb).1
    have hX : va_X b xs.length (fun j => xs.getD j 0) s s.heap := ⟨scr, hcb, hof, hkn, hsz, hval⟩
    have K : W p l e room_1 s m #[Value.ref b] below meth c s₁.heap [] 0 0 (lw_Z below #[Value.ref b] s) (entryFrame m ([Value.ref b] : List Value).toArray 8) := by
      rw [hh0]
      exact whole_start l hflags hbd ⟨B.exec, B.bytes, B.returns, hml, hown, hts, hX, hbl, B.notSynchronized, hgv⟩
    obtain ⟨t, a1, o, b1, b2, b3⟩ := K s₁ rfl X₀
    exact ⟨t, o, a1, b1, b2, b3⟩
theorem lw_pre_spec {args : Array Value} {s : State} (h : (Jvm.Cond.and given_1 narrow_1).before args s = true) (hr : rest_1_c.before args s = true) : ∃ (b : Addr) (xs : List Int32), lw_P b xs args s := by
  have hs := flat_of_before _ h
  have hq := flat_of_before _ hr
  have hc : (Cond.count 1).before args s = true := hs _ (by decide +kernel)
  have harr : (Cond.arrayOf (.arg 0) .int).before args s = true := hs _ (by decide +kernel)
  have hle : (Cond.le (.length (.arg 0)) (.int 2560)).before args s = true := hs _ (by decide +kernel)
  have hlen : (Cond.isInt (.length (.arg 0))).before args s = true := hq _ (by decide +kernel)
  have hall : (Cond.all (.arg 0) (.isInt (.elem (.arg 0) (.index 0)))).before args s = true := hq _ (by decide +kernel)
  obtain ⟨b, xs, hb, hx⟩ := State.ints_of_pre rfl harr hlen hall
  have hsm : xs.length < 2 ^ 31 := hx.choose_spec.2.2.2
  have hev : (Term.length (.arg 0)).eval args s none [] s = some (.int xs.length.toInt32) := hx.length_eval hb
  have hv := Cond.le_ints hev (show (Term.int 2560).eval args s none [] s = some (.int 2560) from rfl)
  have hd : xs.length.toInt32 ≤ 2560 := by
    simpa [Cond.before, Cond.holds, hv] using hle
  have hN : xs.length ≤ 2560 := (Int32.ofNat_le_ofNat hsm (by decide)).mp (show Int32.ofNat xs.length ≤ Int32.ofNat 2560 from hd)
  exact ⟨b, xs, Cond.one_arg hc (show args[0]? = some (.ref b) from hb), hx, hN, h⟩
theorem lw_comes (l : Launch) (hflags : l.flags = flags0) : Comes l x (Jvm.Cond.code x code maxLocals ret :: tables_1) room_1 (fun tb e args s => Calls_1 tb e args s ∧ rest_1 tb e args s ∧ Pre_1 tb e args s)
    (fun _ _ args s o t => lw_Q args s o t) := by
  intro p e ha hc hk s m args below hf hfit hheap happ hpre
  obtain ⟨b, xs, hP⟩ := lw_pre_spec hpre.2.2 hpre.2.1
  obtain ⟨k, o, h1, h2, h3, hQ⟩ := lw_walk l hflags b xs p e ha hc hk s m args below hf ((Spec.applies_iff_loose hf).mp happ).1 hP trivial
  exact ⟨k, o, h1, h2, h3, hQ⟩
theorem lw_frame {s t : State} {o : Outcome} {args : Array Value} (h : State.butDraws s t lw_cs (fun t1 => Framed s o t1 [] 601024 7293034)) :
    State.butDraws s t [Jvm.Choice.named "NaN.bits"] (fun t1 => Framed s o t1 (fieldLocs frame_1_writes args s ++ arrayLocs frame_1_arrays args s ++ staticLocs frame_1_statics s) 601024 7293034) := h
theorem lw_limb (L : Cond) (hL : ∀ (args : Array Value) (s t : State), L.after args s (.returned (some (.int 1))) t = true) :
    ArmFor flags0 classFile x code maxLocals ret World_1 tables_1 room_1 Calls_1 rest_1 Pre_1
      (fun tb e a s o t => postC L tb e a s o t ∧ State.butDraws s t [Jvm.Choice.named "NaN.bits"] (fun t1 => Framed s o t1 (fieldLocs frame_1_writes a s ++ arrayLocs frame_1_arrays a s ++ staticLocs frame_1_statics s) 601024 7293034)) := by
  intro l hflags _ _ p e ha hc hk s m args below hf hfit hheap happ hpre
  obtain ⟨k, o, h1, h2, h3, rfl, hF⟩ := lw_comes l hflags p e ha hc hk s m args below hf hfit hheap happ hpre
  exact ⟨k, _, h1, h2, h3, hL args s _, lw_frame hF⟩
theorem i_vc : Claimed_1_1 ∧ Claimed_1_2 := ⟨lw_limb limb_1_1 (fun args s t => by simp [limb_1_1, Cond.after, Cond.holds, Cond.value]), lw_limb limb_1_2 (fun args s t => Cond.after_iff.mpr (by
  first | (rw [show limb_1_2 = Cond.eq .result (.int 1) from rfl, Cond.eq_ints (x := 1) (y := 1) rfl rfl]; simp; done) | (simp [limb_1_2, Cond.value, Term.eval]; done)))⟩
