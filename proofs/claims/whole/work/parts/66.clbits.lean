/-! ldc_w of a float -/
theorem x_ldcwF {p : Program} {l : Launch} {e : Env} {R : Room} {s : State} {m : MethodId} {args : Array Value} {below : List Frame} {meth : Method} {c : Code} {locs : List Loc} {cells slots : Nat} {T : State} (X : Stand p l e R s m args below meth c T locs cells slots) (hexec : p.tables.exec = Jvm.exec) {own : String} {index : Nat} {v : UInt32} (hown : s.vm.findClass own = some m.cls)
    (hconst : (Cond.constantFloat own index v).before args s = true) {g : JFrame} (hg : g.method = m) (hdg : decode c.code g.pc = .ok (.ldc_w index, 3)) :
    ∀ target, Steps p.tables e below (T.setTop { g with pc := g.pc + 3, stack := .float v :: g.stack }) target → Steps p.tables e below (T.setTop g) target := by
  obtain ⟨k, cf, hk, hcf, hcp⟩ := Cond.constantFloat_spec hown hconst
  obtain ⟨k', hk', he⟩ := X.warmed.alike.2.2 _ _ hk
  intro target hrest
  subst hg
  jvm_step X.here [hexec, hdg, Op.ldc_w.wp_float (s := T) (f := g) X.here.top hk' (by rw [he]; exact hcf) hcp]
  exact hrest
theorem mW_ldcwf {G : mG} {M : mM} {d kc ks pc : Nat} {lv : List (Nat × Value)} {st : List Value} {w : mH} {Φ : mF} {idx : Nat} {v : UInt32} (hd : decode M.2.1 pc = .ok (.ldc_w idx, 3)) (hw : Cond.constantFloat M.1.cls idx v ∈ mTs) (k : mW G M d kc ks (pc + 3) lv (.float v :: st) w Φ) : mW G M d kc ks pc lv st w Φ := mW_go (fun p l e R s m args below meth c H locs cells slots Q ls hx hb ho hts hl kk => fun T hT X => by
  obtain ⟨t, a, b⟩ := kk T hT X
  exact ⟨t, x_ldcwF X hx ho (hts _ hw) (g := F0 m pc ls st) rfl (by rw [hb]; exact hd) t a, b⟩) k
abbrev mX10_doubleBits : mM := (yX10_doubleBits, cX10_doubleBits, 7, (some .long), [])
theorem u1425 : (Cond.constantLong "LineFollowerBench" 403 1023 : Cond) ∈ mTs := mTs_in 1425 (by decide +kernel) (by decide +kernel)
set_option maxHeartbeats 4000000 in
set_option maxRecDepth 100000 in
theorem gX10_doubleBits_0 {G : mG} {w : mH} {Φ : mF} {z0 : UInt64}  (k1 : (0 < (Op.cmpValue (FP.dcmp z0 FP.dconst0) .l)) → mW G mX10_doubleBits 1 0 0 18 [(0, .double z0), (2, .double z0), (4, .long 1023), (6, .int 0)] [] w Φ) (k2 : (¬ (0 < (Op.cmpValue (FP.dcmp z0 FP.dconst0) .l))) → Φ (.inl (some (.long 0))) w) : mW G mX10_doubleBits 1 0 0 0 [(0, .double z0)] [] w Φ := by
  refine mW_dload_n (j := 0) dX10_doubleBits_0 rfl rfl ?_
  refine mW_dconst0 dX10_doubleBits_1 ?_
  refine mW_dcmp dX10_doubleBits_2 ?_
  refine mW_if_gt (tgt := 8) dX10_doubleBits_3 (by decide) (fun c1 => ?_) (fun c1 => ?_)
  · refine mW_dload_n (j := 0) dX10_doubleBits_8 rfl rfl ?_
    refine mW_dstore_n (lv2 := [(2, .double z0), (0, .double z0)]) dX10_doubleBits_9 rfl (by decide) rfl ?_
    refine mW_ldc2 (v := 1023) dX10_doubleBits_10 u1425 ?_
    refine mW_lstore (lv2 := [(4, .long 1023), (2, .double z0), (0, .double z0)]) dX10_doubleBits_13 (by decide) rfl ?_
    refine mW_iconst (v := 0) dX10_doubleBits_15 (by decide) ?_
    refine mW_istore (lv2 := [(6, .int 0), (4, .long 1023), (2, .double z0), (0, .double z0)]) dX10_doubleBits_16 (by decide) rfl ?_
    refine mW_loc [3, 2, 1, 0] (lv2 := [(0, .double z0), (2, .double z0), (4, .long 1023), (6, .int 0)]) rfl ?_
    exact k1 c1
  · refine mW_lconst (v := 0) dX10_doubleBits_6 (by decide) ?_
    exact mW_lret dX10_doubleBits_7 rfl (k2 c1)
theorem u1426 : (Cond.constantDouble "LineFollowerBench" 405 4611686018427387904 : Cond) ∈ mTs := mTs_in 1426 (by decide +kernel) (by decide +kernel)
set_option maxHeartbeats 4000000 in
set_option maxRecDepth 100000 in
theorem gX10_doubleBits_18 {G : mG} {w : mH} {Φ : mF} {z0 z2 : UInt64} {y4 : Int64} {x6 : Int32} (s1 : (¬ (1023 ≤ x6)) → (¬ ((Op.cmpValue (FP.dcmp z2 4611686018427387904) .l) < 0)) → vf_n64 (FP.ddiv z2 4611686018427387904)) (k1 : (1023 ≤ x6) → mW G mX10_doubleBits 1 0 0 55 [(0, .double z0), (2, .double z2), (4, .long y4), (6, .int 0)] [] w Φ) (k2 : (¬ (1023 ≤ x6)) → ((Op.cmpValue (FP.dcmp z2 4611686018427387904) .l) < 0) → mW G mX10_doubleBits 1 0 0 55 [(0, .double z0), (2, .double z2), (4, .long y4), (6, .int 0)] [] w Φ) (k3 : (¬ (1023 ≤ x6)) → (¬ ((Op.cmpValue (FP.dcmp z2 4611686018427387904) .l) < 0)) → mW G mX10_doubleBits 1 0 0 18 [(0, .double z0), (2, .double (FP.ddiv z2 4611686018427387904)), (4, .long (y4 + 1)), (6, .int (x6 + 1))] [] w Φ) : mW G mX10_doubleBits 1 0 0 18 [(0, .double z0), (2, .double z2), (4, .long y4), (6, .int x6)] [] w Φ := by
  refine mW_iload (j := 3) dX10_doubleBits_18 rfl ?_
  refine mW_sipush (v := 1023) dX10_doubleBits_20 (by decide) ?_
  refine mW_icmp_ge (tgt := 52) dX10_doubleBits_23 (by decide) (fun c1 => ?_) (fun c1 => ?_)
  · refine mW_iconst (v := 0) dX10_doubleBits_52 (by decide) ?_
    refine mW_istore (lv2 := [(6, .int 0), (0, .double z0), (2, .double z2), (4, .long y4)]) dX10_doubleBits_53 (by decide) rfl ?_
    refine mW_loc [1, 2, 3, 0] (lv2 := [(0, .double z0), (2, .double z2), (4, .long y4), (6, .int 0)]) rfl ?_
    exact k1 c1
  · refine mW_dload_n (j := 1) dX10_doubleBits_26 rfl rfl ?_
    refine mW_ldc2d (v := 4611686018427387904) dX10_doubleBits_27 u1426 ?_
    refine mW_dcmp dX10_doubleBits_30 ?_
    refine mW_if_lt (tgt := 52) dX10_doubleBits_31 (by decide) (fun c2 => ?_) (fun c2 => ?_)
    · refine mW_iconst (v := 0) dX10_doubleBits_52 (by decide) ?_
      refine mW_istore (lv2 := [(6, .int 0), (0, .double z0), (2, .double z2), (4, .long y4)]) dX10_doubleBits_53 (by decide) rfl ?_
      refine mW_loc [1, 2, 3, 0] (lv2 := [(0, .double z0), (2, .double z2), (4, .long y4), (6, .int 0)]) rfl ?_
      exact k2 c1 c2
    · refine mW_dload_n (j := 1) dX10_doubleBits_34 rfl rfl ?_
      refine mW_ldc2d (v := 4611686018427387904) dX10_doubleBits_35 u1426 ?_
      refine mW_ddiv dX10_doubleBits_38 (s1 c1 c2) ?_
      refine mW_dstore_n (lv2 := [(2, .double (FP.ddiv z2 4611686018427387904)), (0, .double z0), (4, .long y4), (6, .int x6)]) dX10_doubleBits_39 rfl (by decide) rfl ?_
      refine mW_lload (j := 2) dX10_doubleBits_40 rfl ?_
      refine mW_lconst (v := 1) dX10_doubleBits_42 (by decide) ?_
      refine mW_ladd dX10_doubleBits_43 ?_
      refine mW_lstore (lv2 := [(4, .long (y4 + 1)), (2, .double (FP.ddiv z2 4611686018427387904)), (0, .double z0), (6, .int x6)]) dX10_doubleBits_44 (by decide) rfl ?_
      refine mW_iinc (j := 3) (v := x6 + 1) (lv2 := [(6, .int (x6 + 1)), (4, .long (y4 + 1)), (2, .double (FP.ddiv z2 4611686018427387904)), (0, .double z0)]) dX10_doubleBits_46 rfl rfl (by decide) rfl ?_
      refine mW_goto (tgt := 18) dX10_doubleBits_49 (by decide) ?_
      refine mW_loc [3, 2, 1, 0] (lv2 := [(0, .double z0), (2, .double (FP.ddiv z2 4611686018427387904)), (4, .long (y4 + 1)), (6, .int (x6 + 1))]) rfl ?_
      exact k3 c1 c2
set_option maxHeartbeats 4000000 in
set_option maxRecDepth 100000 in
theorem gX10_doubleBits_55 {G : mG} {w : mH} {Φ : mF} {z0 z2 : UInt64} {y4 : Int64} {x6 : Int32} (s1 : (¬ (1023 ≤ x6)) → (¬ (0 ≤ (Op.cmpValue (FP.dcmp z2 FP.dconst1) .g))) → vf_n64 (FP.dmul z2 4611686018427387904)) (k1 : (1023 ≤ x6) → mW G mX10_doubleBits 1 0 0 87 [(0, .double z0), (2, .double z2), (4, .long y4), (6, .int x6)] [] w Φ) (k2 : (¬ (1023 ≤ x6)) → (0 ≤ (Op.cmpValue (FP.dcmp z2 FP.dconst1) .g)) → mW G mX10_doubleBits 1 0 0 87 [(0, .double z0), (2, .double z2), (4, .long y4), (6, .int x6)] [] w Φ) (k3 : (¬ (1023 ≤ x6)) → (¬ (0 ≤ (Op.cmpValue (FP.dcmp z2 FP.dconst1) .g))) → mW G mX10_doubleBits 1 0 0 55 [(0, .double z0), (2, .double (FP.dmul z2 4611686018427387904)), (4, .long (y4 - 1)), (6, .int (x6 + 1))] [] w Φ) : mW G mX10_doubleBits 1 0 0 55 [(0, .double z0), (2, .double z2), (4, .long y4), (6, .int x6)] [] w Φ := by
  refine mW_iload (j := 3) dX10_doubleBits_55 rfl ?_
  refine mW_sipush (v := 1023) dX10_doubleBits_57 (by decide) ?_
  refine mW_icmp_ge (tgt := 87) dX10_doubleBits_60 (by decide) (fun c1 => ?_) (fun c1 => ?_)
  · exact k1 c1
  · refine mW_dload_n (j := 1) dX10_doubleBits_63 rfl rfl ?_
    refine mW_dconst1 dX10_doubleBits_64 ?_
    refine mW_dcmp dX10_doubleBits_65 ?_
    refine mW_if_ge (tgt := 87) dX10_doubleBits_66 (by decide) (fun c2 => ?_) (fun c2 => ?_)
    · exact k2 c1 c2
    · refine mW_dload_n (j := 1) dX10_doubleBits_69 rfl rfl ?_
      refine mW_ldc2d (v := 4611686018427387904) dX10_doubleBits_70 u1426 ?_
      refine mW_dmul dX10_doubleBits_73 (s1 c1 c2) ?_
      refine mW_dstore_n (lv2 := [(2, .double (FP.dmul z2 4611686018427387904)), (0, .double z0), (4, .long y4), (6, .int x6)]) dX10_doubleBits_74 rfl (by decide) rfl ?_
      refine mW_lload (j := 2) dX10_doubleBits_75 rfl ?_
      refine mW_lconst (v := 1) dX10_doubleBits_77 (by decide) ?_
      refine mW_lsub dX10_doubleBits_78 ?_
      refine mW_lstore (lv2 := [(4, .long (y4 - 1)), (2, .double (FP.dmul z2 4611686018427387904)), (0, .double z0), (6, .int x6)]) dX10_doubleBits_79 (by decide) rfl ?_
      refine mW_iinc (j := 3) (v := x6 + 1) (lv2 := [(6, .int (x6 + 1)), (4, .long (y4 - 1)), (2, .double (FP.dmul z2 4611686018427387904)), (0, .double z0)]) dX10_doubleBits_81 rfl rfl (by decide) rfl ?_
      refine mW_goto (tgt := 55) dX10_doubleBits_84 (by decide) ?_
      refine mW_loc [3, 2, 1, 0] (lv2 := [(0, .double z0), (2, .double (FP.dmul z2 4611686018427387904)), (4, .long (y4 - 1)), (6, .int (x6 + 1))]) rfl ?_
      exact k3 c1 c2
theorem u1427 : (Cond.constantDouble "LineFollowerBench" 407 4841369599423283200 : Cond) ∈ mTs := mTs_in 1427 (by decide +kernel) (by decide +kernel)
set_option maxHeartbeats 4000000 in
set_option maxRecDepth 100000 in
theorem gX10_doubleBits_87 {G : mG} {w : mH} {Φ : mF} {z0 z2 : UInt64} {y4 : Int64} {x6 : Int32} (s1 : vf_n64 (FP.dsub z2 FP.dconst1)) (s2 : vf_n64 (FP.dmul (FP.dsub z2 FP.dconst1) 4841369599423283200)) (k1 : Φ (.inl (some (.long ((y4 <<< ((52 : Int32).toInt64 &&& 63)) + (FP.d2l (FP.dmul (FP.dsub z2 FP.dconst1) 4841369599423283200)))))) w) : mW G mX10_doubleBits 1 0 0 87 [(0, .double z0), (2, .double z2), (4, .long y4), (6, .int x6)] [] w Φ := by
  refine mW_lload (j := 2) dX10_doubleBits_87 rfl ?_
  refine mW_bipush (v := 52) dX10_doubleBits_89 (by decide) ?_
  refine mW_lshl dX10_doubleBits_91 rfl ?_
  refine mW_dload_n (j := 1) dX10_doubleBits_92 rfl rfl ?_
  refine mW_dconst1 dX10_doubleBits_93 ?_
  refine mW_dsub dX10_doubleBits_94 s1 ?_
  refine mW_ldc2d (v := 4841369599423283200) dX10_doubleBits_95 u1427 ?_
  refine mW_dmul dX10_doubleBits_98 s2 ?_
  refine mW_d2l dX10_doubleBits_99 ?_
  refine mW_ladd dX10_doubleBits_100 ?_
  exact mW_lret dX10_doubleBits_101 rfl (k1)
abbrev mX10_floatBits : mM := (yX10_floatBits, cX10_floatBits, 4, (some .int), [])
set_option maxHeartbeats 4000000 in
set_option maxRecDepth 100000 in
theorem gX10_floatBits_0 {G : mG} {w : mH} {Φ : mF} {f0 : UInt32}  (k1 : (0 < (Op.cmpValue (FP.fcmp f0 FP.fconst0) .l)) → mW G mX10_floatBits 1 0 0 15 [(0, .float f0), (1, .float f0), (2, .int 127), (3, .int 0)] [] w Φ) (k2 : (¬ (0 < (Op.cmpValue (FP.fcmp f0 FP.fconst0) .l))) → Φ (.inl (some (.int 0))) w) : mW G mX10_floatBits 1 0 0 0 [(0, .float f0)] [] w Φ := by
  refine mW_fload_n (j := 0) dX10_floatBits_0 rfl rfl ?_
  refine mW_fconst0 dX10_floatBits_1 ?_
  refine mW_fcmp dX10_floatBits_2 ?_
  refine mW_if_gt (tgt := 8) dX10_floatBits_3 (by decide) (fun c1 => ?_) (fun c1 => ?_)
  · refine mW_fload_n (j := 0) dX10_floatBits_8 rfl rfl ?_
    refine mW_fstore_n (lv2 := [(1, .float f0), (0, .float f0)]) dX10_floatBits_9 rfl (by decide) rfl ?_
    refine mW_bipush (v := 127) dX10_floatBits_10 (by decide) ?_
    refine mW_istore_n (lv2 := [(2, .int 127), (1, .float f0), (0, .float f0)]) dX10_floatBits_12 rfl (by decide) rfl ?_
    refine mW_iconst (v := 0) dX10_floatBits_13 (by decide) ?_
    refine mW_istore_n (lv2 := [(3, .int 0), (2, .int 127), (1, .float f0), (0, .float f0)]) dX10_floatBits_14 rfl (by decide) rfl ?_
    refine mW_loc [3, 2, 1, 0] (lv2 := [(0, .float f0), (1, .float f0), (2, .int 127), (3, .int 0)]) rfl ?_
    exact k1 c1
  · refine mW_iconst (v := 0) dX10_floatBits_6 (by decide) ?_
    exact mW_iret dX10_floatBits_7 rfl (k2 c1)
set_option maxHeartbeats 4000000 in
set_option maxRecDepth 100000 in
theorem gX10_floatBits_15 {G : mG} {w : mH} {Φ : mF} {f0 f1 : UInt32} {x2 x3 : Int32} (s1 : (¬ (127 ≤ x3)) → (¬ (0 ≤ (Op.cmpValue (FP.fcmp f1 FP.fconst1) .g))) → vf_n32 (FP.fmul f1 FP.fconst2)) (k1 : (127 ≤ x3) → mW G mX10_floatBits 1 0 0 40 [(0, .float f0), (1, .float f1), (2, .int x2), (3, .int x3)] [] w Φ) (k2 : (¬ (127 ≤ x3)) → (0 ≤ (Op.cmpValue (FP.fcmp f1 FP.fconst1) .g)) → mW G mX10_floatBits 1 0 0 40 [(0, .float f0), (1, .float f1), (2, .int x2), (3, .int x3)] [] w Φ) (k3 : (¬ (127 ≤ x3)) → (¬ (0 ≤ (Op.cmpValue (FP.fcmp f1 FP.fconst1) .g))) → mW G mX10_floatBits 1 0 0 15 [(0, .float f0), (1, .float (FP.fmul f1 FP.fconst2)), (2, .int (x2 + (-1))), (3, .int (x3 + 1))] [] w Φ) : mW G mX10_floatBits 1 0 0 15 [(0, .float f0), (1, .float f1), (2, .int x2), (3, .int x3)] [] w Φ := by
  refine mW_iload_n (j := 3) dX10_floatBits_15 rfl rfl ?_
  refine mW_bipush (v := 127) dX10_floatBits_16 (by decide) ?_
  refine mW_icmp_ge (tgt := 40) dX10_floatBits_18 (by decide) (fun c1 => ?_) (fun c1 => ?_)
  · exact k1 c1
  · refine mW_fload_n (j := 1) dX10_floatBits_21 rfl rfl ?_
    refine mW_fconst1 dX10_floatBits_22 ?_
    refine mW_fcmp dX10_floatBits_23 ?_
    refine mW_if_ge (tgt := 40) dX10_floatBits_24 (by decide) (fun c2 => ?_) (fun c2 => ?_)
    · exact k2 c1 c2
    · refine mW_fload_n (j := 1) dX10_floatBits_27 rfl rfl ?_
      refine mW_fconst2 dX10_floatBits_28 ?_
      refine mW_fmul dX10_floatBits_29 (s1 c1 c2) ?_
      refine mW_fstore_n (lv2 := [(1, .float (FP.fmul f1 FP.fconst2)), (0, .float f0), (2, .int x2), (3, .int x3)]) dX10_floatBits_30 rfl (by decide) rfl ?_
      refine mW_iinc (j := 2) (v := x2 + (-1)) (lv2 := [(2, .int (x2 + (-1))), (1, .float (FP.fmul f1 FP.fconst2)), (0, .float f0), (3, .int x3)]) dX10_floatBits_31 rfl rfl (by decide) rfl ?_
      refine mW_iinc (j := 3) (v := x3 + 1) (lv2 := [(3, .int (x3 + 1)), (2, .int (x2 + (-1))), (1, .float (FP.fmul f1 FP.fconst2)), (0, .float f0)]) dX10_floatBits_34 rfl rfl (by decide) rfl ?_
      refine mW_goto (tgt := 15) dX10_floatBits_37 (by decide) ?_
      refine mW_loc [3, 2, 1, 0] (lv2 := [(0, .float f0), (1, .float (FP.fmul f1 FP.fconst2)), (2, .int (x2 + (-1))), (3, .int (x3 + 1))]) rfl ?_
      exact k3 c1 c2
theorem u1442 : (Cond.constantFloat "LineFollowerBench" 409 1258291200 : Cond) ∈ mTs := mTs_in 1442 (by decide +kernel) (by decide +kernel)
set_option maxHeartbeats 4000000 in
set_option maxRecDepth 100000 in
theorem gX10_floatBits_40 {G : mG} {w : mH} {Φ : mF} {f0 f1 : UInt32} {x2 x3 : Int32} (s1 : vf_n32 (FP.fsub f1 FP.fconst1)) (s2 : vf_n32 (FP.fmul (FP.fsub f1 FP.fconst1) 1258291200)) (k1 : Φ (.inl (some (.int ((x2 <<< (23 &&& 31)) + (FP.f2i (FP.fmul (FP.fsub f1 FP.fconst1) 1258291200)))))) w) : mW G mX10_floatBits 1 0 0 40 [(0, .float f0), (1, .float f1), (2, .int x2), (3, .int x3)] [] w Φ := by
  refine mW_iload_n (j := 2) dX10_floatBits_40 rfl rfl ?_
  refine mW_bipush (v := 23) dX10_floatBits_41 (by decide) ?_
  refine mW_ishl dX10_floatBits_43 ?_
  refine mW_fload_n (j := 1) dX10_floatBits_44 rfl rfl ?_
  refine mW_fconst1 dX10_floatBits_45 ?_
  refine mW_fsub dX10_floatBits_46 s1 ?_
  refine mW_ldcwf (v := 1258291200) dX10_floatBits_47 u1442 ?_
  refine mW_fmul dX10_floatBits_50 s2 ?_
  refine mW_f2i dX10_floatBits_51 ?_
  refine mW_iadd dX10_floatBits_52 ?_
  exact mW_iret dX10_floatBits_53 rfl (k1)
theorem nD_cmp2 {E T : Nat} (h1 : 1 ≤ E) (h2 : E ≤ 2046) (ht : T < 4503599627370496) : Op.cmpValue (FP.dcmp (nD E T) 4611686018427387904) .l < 0 ↔ E < 1024 := by
  by_cases h : E < 1024
  · rw [show FP.dcmp (nD E T) 4611686018427387904 = some .lt from (nD_ge2 h1 h2 ht).mpr h]
    exact ⟨fun _ => h, fun _ => by decide⟩
  · have : FP.Core.dcmp (nD E T) 4611686018427387904 = some .eq ∨ FP.Core.dcmp (nD E T) 4611686018427387904 = some .gt := by
      rw [FP.Core.dcmp_eq_key (nD_ne h1 h2 ht) (by rw [v_two64]; exact FP.Core.Datum.noConfusion), FP.Core.dcmp_gt_key (nD_ne h1 h2 ht) (by rw [v_two64]; exact FP.Core.Datum.noConfusion), nD_key h1 h2 ht, k_two64]
      omega
    refine ⟨fun q => ?_, fun q => absurd q h⟩
    rcases this with e | e <;> rw [show FP.dcmp (nD E T) 4611686018427387904 = _ from e] at q <;> exact absurd q (by decide)
theorem nD_cmp1 {E T : Nat} (h1 : 1 ≤ E) (h2 : E ≤ 2046) (ht : T < 4503599627370496) : 0 ≤ Op.cmpValue (FP.dcmp (nD E T) FP.dconst1) .g ↔ 1023 ≤ E := by
  rw [show FP.dconst1 = 4607182418800017408 from rfl]
  by_cases h : E < 1023
  · rw [show FP.dcmp (nD E T) 4607182418800017408 = some .lt from (nD_lt1 h1 h2 ht).mpr h]
    exact ⟨fun q => absurd q (by decide), fun q => absurd q (by omega)⟩
  · have : FP.Core.dcmp (nD E T) 4607182418800017408 = some .eq ∨ FP.Core.dcmp (nD E T) 4607182418800017408 = some .gt := by
      rw [FP.Core.dcmp_eq_key (nD_ne h1 h2 ht) (by rw [v_one64]; exact FP.Core.Datum.noConfusion), FP.Core.dcmp_gt_key (nD_ne h1 h2 ht) (by rw [v_one64]; exact FP.Core.Datum.noConfusion), nD_key h1 h2 ht, k_one64]
      omega
    refine ⟨fun _ => by omega, fun _ => ?_⟩
    rcases this with e | e <;> rw [show FP.dcmp (nD E T) 4607182418800017408 = _ from e] <;> decide
theorem nD_cmp0 {E T : Nat} (h1 : 1 ≤ E) (h2 : E ≤ 2046) (ht : T < 4503599627370496) : 0 < Op.cmpValue (FP.dcmp (nD E T) FP.dconst0) .l := by
  rw [show FP.dcmp (nD E T) FP.dconst0 = some .gt from nD_gt0 h1 h2 ht]
  decide

theorem nF_cmp2 {E T : Nat} (h1 : 1 ≤ E) (h2 : E ≤ 254) (ht : T < 8388608) : Op.cmpValue (FP.fcmp (nF E T) 1073741824) .l < 0 ↔ E < 128 := by
  by_cases h : E < 128
  · rw [show FP.fcmp (nF E T) 1073741824 = some .lt from (nF_ge2 h1 h2 ht).mpr h]
    exact ⟨fun _ => h, fun _ => by decide⟩
  · have : FP.Core.fcmp (nF E T) 1073741824 = some .eq ∨ FP.Core.fcmp (nF E T) 1073741824 = some .gt := by
      rw [FP.Core.fcmp_eq_key (nF_ne h1 h2 ht) (by rw [v_two32]; exact FP.Core.Datum.noConfusion), FP.Core.fcmp_gt_key (nF_ne h1 h2 ht) (by rw [v_two32]; exact FP.Core.Datum.noConfusion), nF_key h1 h2 ht, k_two32]
      omega
    refine ⟨fun q => ?_, fun q => absurd q h⟩
    rcases this with e | e <;> rw [show FP.fcmp (nF E T) 1073741824 = _ from e] at q <;> exact absurd q (by decide)
theorem nF_cmp1 {E T : Nat} (h1 : 1 ≤ E) (h2 : E ≤ 254) (ht : T < 8388608) : 0 ≤ Op.cmpValue (FP.fcmp (nF E T) FP.fconst1) .g ↔ 127 ≤ E := by
  rw [show FP.fconst1 = 1065353216 from rfl]
  by_cases h : E < 127
  · rw [show FP.fcmp (nF E T) 1065353216 = some .lt from (nF_lt1 h1 h2 ht).mpr h]
    exact ⟨fun q => absurd q (by decide), fun q => absurd q (by omega)⟩
  · have : FP.Core.fcmp (nF E T) 1065353216 = some .eq ∨ FP.Core.fcmp (nF E T) 1065353216 = some .gt := by
      rw [FP.Core.fcmp_eq_key (nF_ne h1 h2 ht) (by rw [v_one32]; exact FP.Core.Datum.noConfusion), FP.Core.fcmp_gt_key (nF_ne h1 h2 ht) (by rw [v_one32]; exact FP.Core.Datum.noConfusion), nF_key h1 h2 ht, k_one32]
      omega
    refine ⟨fun _ => by omega, fun _ => ?_⟩
    rcases this with e | e <;> rw [show FP.fcmp (nF E T) 1065353216 = _ from e] <;> decide
theorem nF_cmp0 {E T : Nat} (h1 : 1 ≤ E) (h2 : E ≤ 254) (ht : T < 8388608) : 0 < Op.cmpValue (FP.fcmp (nF E T) FP.fconst0) .l := by
  rw [show FP.fcmp (nF E T) FP.fconst0 = some .gt from nF_gt0 h1 h2 ht]
  decide

def lI (n : Nat) : Int64 := Int64.ofNat n
theorem lI_s (n : Nat) : lI n + 1 = lI (n + 1) := (Int64.ofNat_add n 1).symm
theorem lI_p (n : Nat) : lI (n + 1) - 1 = lI n := by rw [← lI_s, Int64.add_sub_cancel]
theorem shl52 : ∀ E, E < 2048 → lI E <<< ((52 : Int32).toInt64 &&& 63) = lI (E * 4503599627370496) := by decide +kernel
theorem shl23 : ∀ E, E < 256 → nI E <<< ((23 : Int32) &&& 31) = nI (E * 8388608) := by decide +kernel
theorem nD_i64 {E T : Nat} (h1 : 1 ≤ E) (h2 : E ≤ 2046) (ht : T < 4503599627370496) : (nD E T).toInt64 = lI (E * 4503599627370496 + T) := by
  have e : nD E T = UInt64.ofNat (E * 4503599627370496 + T) := by
    apply UInt64.toNat_inj.mp
    rw [nD_nat h1 h2 ht, UInt64.toNat_ofNat']
    omega
  rw [e]
  rfl
theorem nF_i32 {E T : Nat} (h1 : 1 ≤ E) (h2 : E ≤ 254) (ht : T < 8388608) : (nF E T).toInt32 = nI (E * 8388608 + T) := by
  have e : nF E T = UInt32.ofNat (E * 8388608 + T) := by
    apply UInt32.toNat_inj.mp
    rw [nF_nat h1 h2 ht, UInt32.toNat_ofNat']
    omega
  rw [e]
  rfl
theorem nI_m1 (n : Nat) : nI (n + 1) + -1 = nI n := by rw [← Int32.sub_eq_add_neg, m_sub1]
theorem db_3 {G : mG} {w : mH} {z0 : UInt64} {E T : Nat} {x6 : Int32} {Φ : mF} (h1 : 1 ≤ E) (h2 : E ≤ 2046) (ht : T < 4503599627370496) (k : Φ (.inl (some (.long (nD E T).toInt64))) w) : mW G mX10_doubleBits 1 0 0 87 [(0, .double z0), (2, .double (nD 1023 T)), (4, .long (lI E)), (6, .int x6)] [] w Φ := by
  refine gX10_doubleBits_87 (by exact n64_of (by obtain ⟨x, hx, h1, h2, h3⟩ := nD_frac ht; rw [← show FP.Core.dsub (nD 1023 T) 4607182418800017408 = x from hx] at h1 h2; first | exact h1 | exact h2)) (by exact n64_of (by obtain ⟨x, hx, h1, h2, h3⟩ := nD_frac ht; rw [← show FP.Core.dsub (nD 1023 T) 4607182418800017408 = x from hx] at h1 h2; first | exact h1 | exact h2)) ?_
  obtain ⟨x, hx, q1, q2, q3⟩ := nD_frac ht
  have e : FP.d2l (FP.dmul (FP.dsub (nD 1023 T) FP.dconst1) 4841369599423283200) = lI T := by
    show FP.Core.d2l (FP.Core.dmul (FP.Core.dsub (nD 1023 T) 4607182418800017408) 4841369599423283200) = lI T
    rw [hx]
    exact FP.Core.d2l_int (by rw [show (lI T).toInt = (T : Int) from Int64.toInt_ofNat_of_lt (by omega)]; exact q3)
  rw [e, shl52 E (by omega), show lI (E * 4503599627370496) + lI T = lI (E * 4503599627370496 + T) from (Int64.ofNat_add _ _).symm, ← nD_i64 h1 h2 ht]
  exact k
theorem db_2 {G : mG} {w : mH} {z0 : UInt64} {E0 T : Nat} {Φ : mF} (g1 : 1 ≤ E0) (g2 : E0 ≤ 2046) (ht : T < 4503599627370496) (k : Φ (.inl (some (.long (nD E0 T).toInt64))) w) : ∀ j E i Y, E + j = 1023 → i + j ≤ 1022 → 1 ≤ E → Y = E0 + j → mW G mX10_doubleBits 1 0 0 55 [(0, .double z0), (2, .double (nD E T)), (4, .long (lI Y)), (6, .int (nI i))] [] w Φ := by
  intro j
  induction j with
  | zero =>
    intro E i Y hE hi h1 hY
    have hE' : E = 1023 := by omega
    have hY' : Y = E0 := by omega
    have h2 : E ≤ 2046 := by omega
    refine gX10_doubleBits_55 (by intro c1 c2; rw [nD_cmp1 h1 h2 ht] at c2; exact n64_of (by rw [show FP.dmul (nD E T) 4611686018427387904 = nD (E + 1) T from nD_dbl h1 (by omega) ht]; exact nD_ne (by omega) (by omega) ht)) ?_ ?_ ?_
    · intro _
      rw [hE', hY']
      exact db_3 g1 g2 ht k
    · intro _ _
      rw [hE', hY']
      exact db_3 g1 g2 ht k
    · intro _ c2
      rw [nD_cmp1 h1 h2 ht] at c2
      omega
  | succ j ih =>
    intro E i Y hE hi h1 hY
    have h2 : E ≤ 2046 := by omega
    have ci : (1023 : Int32) ≤ nI i ↔ 1023 ≤ i := m_le (a := 1023) (by omega) (by omega)
    subst hY
    refine gX10_doubleBits_55 (by intro c1 c2; rw [nD_cmp1 h1 h2 ht] at c2; exact n64_of (by rw [show FP.dmul (nD E T) 4611686018427387904 = nD (E + 1) T from nD_dbl h1 (by omega) ht]; exact nD_ne (by omega) (by omega) ht)) ?_ ?_ ?_
    · intro c1
      rw [ci] at c1
      omega
    · intro _ c2
      rw [nD_cmp1 h1 h2 ht] at c2
      omega
    · intro _ _
      rw [show FP.dmul (nD E T) 4611686018427387904 = nD (E + 1) T from nD_dbl h1 (by omega) ht, nI_1, show E0 + (j + 1) = E0 + j + 1 by omega, lI_p]
      exact ih (E + 1) (i + 1) (E0 + j) (by omega) (by omega) (by omega) rfl
theorem db_1 {G : mG} {w : mH} {z0 : UInt64} {E0 T : Nat} {Φ : mF} (g0 : 1023 ≤ E0) (g2 : E0 ≤ 2046) (ht : T < 4503599627370496) (k : Φ (.inl (some (.long (nD E0 T).toInt64))) w) : ∀ j E i, E = 1023 + j → 1023 + i + j = E0 → mW G mX10_doubleBits 1 0 0 18 [(0, .double z0), (2, .double (nD E T)), (4, .long (lI (1023 + i))), (6, .int (nI i))] [] w Φ := by
  intro j
  induction j with
  | zero =>
    intro E i hE hi
    have h1 : 1 ≤ E := by omega
    have h2 : E ≤ 2046 := by omega
    have hY : 1023 + i = E0 + 0 := by omega
    have fin := db_2 (G := G) (w := w) (z0 := z0) (by omega) g2 ht k 0 E 0 (1023 + i) (by omega) (by omega) h1 hY
    refine gX10_doubleBits_18 (by intro c1 c2; rw [nD_cmp2 h1 h2 ht] at c2; exact n64_of (by rw [show FP.ddiv (nD E T) 4611686018427387904 = nD (E - 1) T from nD_half (by omega) h2 ht]; exact nD_ne (by omega) (by omega) ht)) ?_ ?_ ?_
    · intro _
      exact fin
    · intro _ _
      exact fin
    · intro _ c2
      rw [nD_cmp2 h1 h2 ht] at c2
      omega
  | succ j ih =>
    intro E i hE hi
    have h1 : 1 ≤ E := by omega
    have h2 : E ≤ 2046 := by omega
    have ci : (1023 : Int32) ≤ nI i ↔ 1023 ≤ i := m_le (a := 1023) (by omega) (by omega)
    refine gX10_doubleBits_18 (by intro c1 c2; rw [nD_cmp2 h1 h2 ht] at c2; exact n64_of (by rw [show FP.ddiv (nD E T) 4611686018427387904 = nD (E - 1) T from nD_half (by omega) h2 ht]; exact nD_ne (by omega) (by omega) ht)) ?_ ?_ ?_
    · intro c1
      rw [ci] at c1
      omega
    · intro _ c2
      rw [nD_cmp2 h1 h2 ht] at c2
      omega
    · intro _ _
      rw [show FP.ddiv (nD E T) 4611686018427387904 = nD (E - 1) T from nD_half (by omega) h2 ht, nI_1, lI_s]
      exact ih (E - 1) (i + 1) (by omega) (by omega)
theorem db_0 {G : mG} {w : mH} {z0 : UInt64} {E T : Nat} {Φ : mF} (h1 : 1 ≤ E) (h2 : E ≤ 2046) (ht : T < 4503599627370496) (k : Φ (.inl (some (.long (nD E T).toInt64))) w) : mW G mX10_doubleBits 1 0 0 18 [(0, .double z0), (2, .double (nD E T)), (4, .long 1023), (6, .int 0)] [] w Φ := by
  by_cases h : 1023 ≤ E
  · exact db_1 h h2 ht k (E - 1023) E 0 (by omega) (by omega)
  · have fin := db_2 (G := G) (w := w) (z0 := z0) h1 h2 ht k (1023 - E) E 0 1023 (by omega) (by omega) h1 (by omega)
    have ci : (1023 : Int32) ≤ nI 0 ↔ 1023 ≤ 0 := m_le (a := 1023) (by omega) (by omega)
    have T1 : mW G mX10_doubleBits 1 0 0 18 [(0, .double z0), (2, .double (nD E T)), (4, .long 1023), (6, .int 0)] [] w Φ := by
      have i : Nat := 0
      refine gX10_doubleBits_18 (by intro c1 c2; rw [nD_cmp2 h1 h2 ht] at c2; exact n64_of (by rw [show FP.ddiv (nD E T) 4611686018427387904 = nD (E - 1) T from nD_half (by omega) h2 ht]; exact nD_ne (by omega) (by omega) ht)) ?_ ?_ ?_
      · intro c1
        exact absurd (ci.mp c1) (by decide)
      · intro _ _
        exact fin
      · intro _ c2
        rw [nD_cmp2 h1 h2 ht] at c2
        omega
    exact T1

theorem rX10_doubleBits {G : mG} {w : mH} {x : UInt64} (h : x = 0 ∨ ∃ e t : Nat, 1 ≤ e ∧ e ≤ 2046 ∧ t < 4503599627370496 ∧ x = nD e t) : mC G mX10_doubleBits 1 0 0 [.double x] w (mEq (.inl (some (.long x.toInt64))) w) := by
  refine mC_of (by decide +kernel) rfl (Nat.le_of_ble_eq_true rfl) rfl ?_
  rcases h with rfl | ⟨e, t, h1, h2, ht, rfl⟩
  · refine gX10_doubleBits_0 ?_ ?_
    · intro c1
      exact absurd c1 (by decide +kernel)
    · intro _
      exact mEq_rf
  · refine gX10_doubleBits_0 ?_ ?_
    · intro _
      exact db_0 h1 h2 ht mEq_rf
    · intro c1
      exact absurd (nD_cmp0 h1 h2 ht) c1
theorem nF_cmp2c {E T : Nat} (h1 : 1 ≤ E) (h2 : E ≤ 254) (ht : T < 8388608) : Op.cmpValue (FP.fcmp (nF E T) FP.fconst2) .l < 0 ↔ E < 128 := nF_cmp2 h1 h2 ht
theorem fb_3 {G : mG} {w : mH} {z0 : UInt32} {E T : Nat} {x6 : Int32} {Φ : mF} (h1 : 1 ≤ E) (h2 : E ≤ 254) (ht : T < 8388608) (k : Φ (.inl (some (.int (nF E T).toInt32))) w) : mW G mX10_floatBits 1 0 0 40 [(0, .float z0), (1, .float (nF 127 T)), (2, .int (nI E)), (3, .int x6)] [] w Φ := by
  refine gX10_floatBits_40 (by exact n32_of (by obtain ⟨x, hx, h1, h2, h3⟩ := nF_frac ht; rw [← show FP.Core.fsub (nF 127 T) 1065353216 = x from hx] at h1 h2; first | exact h1 | exact h2)) (by exact n32_of (by obtain ⟨x, hx, h1, h2, h3⟩ := nF_frac ht; rw [← show FP.Core.fsub (nF 127 T) 1065353216 = x from hx] at h1 h2; first | exact h1 | exact h2)) ?_
  obtain ⟨x, hx, q1, q2, q3⟩ := nF_frac ht
  have e : FP.f2i (FP.fmul (FP.fsub (nF 127 T) FP.fconst1) 1258291200) = nI T := by
    show FP.Core.f2i (FP.Core.fmul (FP.Core.fsub (nF 127 T) 1065353216) 1258291200) = nI T
    rw [hx]
    exact FP.Core.f2i_int (by rw [show (nI T).toInt = (T : Int) from nI_toInt (by omega)]; exact q3)
  rw [e, shl23 E (by omega), show nI (E * 8388608) + nI T = nI (E * 8388608 + T) from (Int32.ofNat_add _ _).symm, ← nF_i32 h1 h2 ht]
  exact k
theorem fb_2 {G : mG} {w : mH} {z0 : UInt32} {E0 T : Nat} {Φ : mF} (g1 : 1 ≤ E0) (g2 : E0 ≤ 254) (ht : T < 8388608) (k : Φ (.inl (some (.int (nF E0 T).toInt32))) w) : ∀ j E i Y, E + j = 127 → i + j ≤ 126 → 1 ≤ E → Y = E0 + j → mW G mX10_floatBits 1 0 0 15 [(0, .float z0), (1, .float (nF E T)), (2, .int (nI Y)), (3, .int (nI i))] [] w Φ := by
  intro j
  induction j with
  | zero =>
    intro E i Y hE hi h1 hY
    have hE' : E = 127 := by omega
    have hY' : Y = E0 := by omega
    have h2 : E ≤ 254 := by omega
    refine gX10_floatBits_15 (by intro c1 c2; rw [nF_cmp1 h1 h2 ht] at c2; exact n32_of (by rw [show FP.fmul (nF E T) FP.fconst2 = nF (E + 1) T from nF_dbl h1 (by omega) ht]; exact nF_ne (by omega) (by omega) ht)) ?_ ?_ ?_
    · intro _
      rw [hE', hY']
      exact fb_3 g1 g2 ht k
    · intro _ _
      rw [hE', hY']
      exact fb_3 g1 g2 ht k
    · intro _ c2
      rw [nF_cmp1 h1 h2 ht] at c2
      omega
  | succ j ih =>
    intro E i Y hE hi h1 hY
    have h2 : E ≤ 254 := by omega
    have ci : (127 : Int32) ≤ nI i ↔ 127 ≤ i := m_le (a := 127) (by omega) (by omega)
    subst hY
    refine gX10_floatBits_15 (by intro c1 c2; rw [nF_cmp1 h1 h2 ht] at c2; exact n32_of (by rw [show FP.fmul (nF E T) FP.fconst2 = nF (E + 1) T from nF_dbl h1 (by omega) ht]; exact nF_ne (by omega) (by omega) ht)) ?_ ?_ ?_
    · intro c1
      rw [ci] at c1
      omega
    · intro _ c2
      rw [nF_cmp1 h1 h2 ht] at c2
      omega
    · intro _ _
      rw [show FP.fmul (nF E T) FP.fconst2 = nF (E + 1) T from nF_dbl h1 (by omega) ht, nI_1, show E0 + (j + 1) = E0 + j + 1 by omega, nI_m1]
      exact ih (E + 1) (i + 1) (E0 + j) (by omega) (by omega) (by omega) rfl

theorem wj32 {a : Int64} (h0 : 0 < a.toInt) (h1 : a.toInt < 16777216) : ∃ (c : Nat) (q : Int) (i : Nat), FP.Core.val32 (FP.Core.l2f a) = .fin false c q ∧ a.toInt = (i : Int) ∧ c = i * 2 ^ (-q).toNat ∧ 8388608 ≤ c ∧ -23 ≤ q ∧ q ≤ 0 := by
  obtain ⟨c, q, e, c1, c2, q1, q2⟩ := wi32 h0 h1
  have w := FP.Core.l2f_whole (a := a) (by unfold FP.Core.Small24; omega)
  rw [e] at w
  obtain ⟨i, hi⟩ : ∃ i : Nat, a.toInt = (i : Int) := ⟨a.toInt.toNat, by omega⟩
  refine ⟨c, q, i, e, hi, ?_, c1, q1, q2⟩
  have h : ((c * 2 ^ q.toNat : Nat) : Int) = a.toInt * ((2 ^ (-q).toNat : Nat) : Int) := w
  rw [hi, ← Int.natCast_mul, show q.toNat = 0 by omega, Nat.pow_zero, Nat.mul_one] at h
  exact Int.ofNat.inj h
/-- what is at most 1 has an exponent of at most 127 -/
theorem nF_le1 {a b : Int64} (h0 : 0 < a.toInt) (hab : a.toInt ≤ b.toInt) (hb : b.toInt < 16777216) {E T : Nat} (h1 : 1 ≤ E) (h2 : E ≤ 254) (ht : T < 8388608) (hx : FP.Core.fdiv (FP.Core.l2f a) (FP.Core.l2f b) = nF E T) : E ≤ 127 := by
  obtain ⟨c, q, i, e, hi, hc, c1, q1, q2⟩ := wj32 h0 (by omega)
  obtain ⟨d, r, j, e', hj, hd, d1, r1, r2⟩ := wj32 (a := b) (by omega) hb
  have hv : FP.Core.val32 (FP.Core.fdiv (FP.Core.l2f a) (FP.Core.l2f b)) = FP.Core.roundRatio FP.Core.b32 false c d (q - r) := by
    rw [FP.Core.val32_fdiv, e, e']
    show (if d = 0 then _ else _) = _
    rw [if_neg (by omega)]
    rfl
  have hf : FP.Core.fits FP.Core.b32 (.fin false 8388608 (-23)) := ⟨by decide, by decide, by decide, Or.inr (by decide)⟩
  have k := FP.Core.zmag_roundRatio_le FP.Core.good_b32 (s := false) (A := c) (B := d) (e := q - r) (e0 := -149) (V := .fin false 8388608 (-23)) (by omega) hf FP.Core.Datum.noConfusion (by decide) (by omega) (by
    show c * 2 ^ (q - r - -149).toNat ≤ 8388608 * 2 ^ (-23 - -149 : Int).toNat * 2 ^ (-149 - -149 : Int).toNat * d
    rw [hc, hd, Nat.mul_assoc, ← Nat.pow_add, show (-q).toNat + (q - r - -149).toNat = 149 + (-r).toNat by omega, Nat.pow_add, show 8388608 * 2 ^ (-23 - -149 : Int).toNat * 2 ^ (-149 - -149 : Int).toNat = 2 ^ 149 by decide, Nat.mul_comm j, ← Nat.mul_assoc, Nat.mul_comm i, Nat.mul_assoc]
    refine Nat.mul_le_mul_left _ ?_
    rw [Nat.mul_comm]
    exact Nat.mul_le_mul_left _ (by omega))
  rw [← hv, hx, nF_val h1 h2 ht] at k
  have k' : (8388608 + T) * 2 ^ ((E : Int) - 150 - -149).toNat ≤ 8388608 * 2 ^ 126 := k
  refine Nat.le_of_not_lt fun hE => ?_
  rw [show ((E : Int) - 150 - -149).toNat = 127 + (E - 128) by omega, Nat.pow_add, Nat.pow_succ] at k'
  have p : 1 ≤ 2 ^ (E - 128) := Nat.one_le_two_pow
  have p2 : 2 ^ 126 * 2 * 1 ≤ 2 ^ 126 * 2 * 2 ^ (E - 128) := Nat.mul_le_mul_left _ p
  have p3 : 8388608 * (2 ^ 126 * 2 * 1) ≤ (8388608 + T) * (2 ^ 126 * 2 * 2 ^ (E - 128)) := Nat.mul_le_mul (by omega) p2
  have p4 := Nat.le_trans p3 k'
  exact absurd p4 (by decide)
theorem fShare0 {N : Nat} (h1 : 1 ≤ N) (hN : N ≤ 200) : FP.Core.fdiv (FP.Core.i2f (nI 0)) (FP.Core.i2f (nI N)) = 0 := by
  have eN := n_i64 (n := N) (by omega)
  rw [FP.Core.i2f_l2f, FP.Core.i2f_l2f]
  obtain ⟨d, r, ed, d1, -, -, -⟩ := wi32 (a := (nI N).toInt64) (by rw [eN]; omega) (by rw [eN]; omega)
  refine FP.Core.val32_inj ?_ ?_ <;> rw [FP.Core.val32_fdiv, ed, show (nI 0).toInt64 = 0 from rfl, FP.Core.l2f_zero, show FP.Core.val32 0 = .fin false 0 (-149) by decide +kernel]
  · show (if d = 0 then _ else _) ≠ _
    rw [if_neg (by omega)]
    show (if (0 : Nat) = 0 then _ else _) ≠ _
    rw [if_pos rfl]
    exact FP.Core.Datum.noConfusion
  · show (if d = 0 then _ else _) = _
    rw [if_neg (by omega)]
    show (if (0 : Nat) = 0 then _ else _) = _
    rw [if_pos rfl]
    decide +kernel
/-- the share: +0, or a number of at most 1 as nF writes it -/
theorem fShare1 {n N : Nat} (hn : n ≤ N) (h1 : 1 ≤ N) (hN : N ≤ 200) : FP.Core.fdiv (FP.Core.i2f (nI n)) (FP.Core.i2f (nI N)) = 0 ∨ ∃ e t : Nat, 1 ≤ e ∧ e ≤ 127 ∧ t < 8388608 ∧ FP.Core.fdiv (FP.Core.i2f (nI n)) (FP.Core.i2f (nI N)) = nF e t := by
  by_cases h0 : n = 0
  · subst h0
    exact Or.inl (fShare0 h1 hN)
  · have en := n_i64 (n := n) (by omega)
    have eN := n_i64 (n := N) (by omega)
    rcases fShare (n := n) (N := N) (by omega) h1 hN with e | ⟨e, t, q1, q2, q3, q⟩
    · exact Or.inl e
    · refine Or.inr ⟨e, t, q1, ?_, q3, q⟩
      rw [FP.Core.i2f_l2f, FP.Core.i2f_l2f] at q
      exact nF_le1 (by rw [en]; omega) (by rw [en, eN]; omega) (by rw [eN]; omega) q1 q2 q3 q
theorem rX10_floatBits {G : mG} {w : mH} {x : UInt32} (h : x = 0 ∨ ∃ e t : Nat, 1 ≤ e ∧ e ≤ 127 ∧ t < 8388608 ∧ x = nF e t) : mC G mX10_floatBits 1 0 0 [.float x] w (mEq (.inl (some (.int x.toInt32))) w) := by
  refine mC_of (by decide +kernel) rfl (Nat.le_of_ble_eq_true rfl) rfl ?_
  rcases h with rfl | ⟨e, t, h1, h2, ht, rfl⟩
  · refine gX10_floatBits_0 ?_ ?_
    · intro c1
      exact absurd c1 (by decide +kernel)
    · intro _
      exact mEq_rf
  · refine gX10_floatBits_0 ?_ ?_
    · intro _
      exact fb_2 h1 (by omega) ht mEq_rf (127 - e) e 0 127 (by omega) (by omega) h1 (by omega)
    · intro c1
      exact absurd (nF_cmp0 h1 (by omega) ht) c1
