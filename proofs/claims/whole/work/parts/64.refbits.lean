/-! bits of doubles and floats: the library's own functions -/
section M64
variable {G : mG} {M : mM} {d kc ks pc : Nat} {lv : List (Nat × Value)} {st : List Value} {w : mH} {Φ : mF}
theorem mW_d2lb {idx : Nat} {b : UInt64} (hd : decode M.2.1 pc = .ok (.invokestatic idx, 3)) (w1 : Cond.methodLink M.1.cls idx ⟨"java/lang/Double", "doubleToRawLongBits", "(D)J"⟩ ∈ mTs) (w2 : Cond.native ⟨"java/lang/Double", "doubleToRawLongBits", "(D)J"⟩ ∈ mTs) (w3 : Cond.static ⟨"java/lang/Double", "doubleToRawLongBits", "(D)J"⟩ ∈ mTs) (w4 : Cond.initialized "java/lang/Double" ∈ mTs) (hr : (st.map fun v => v.category).sum ≤ 8) (h0 : 1 ≤ d) (kk : mW G M d kc ks (pc + 3) lv (.long b.toInt64 :: st) w Φ) : mW G M d kc ks pc lv (.double b :: st) w Φ := by
  intro p l e R s m args below meth c H locs cells slots mc ms ls X h1 h2 h3 h4 hS hP hl
  obtain ⟨hx, hb, hml, hrr, hlocks, hown, hnm, hts, hI, hlt, hxt, hdf, hdl⟩ := id X
  exact vn_d2l hx hb (by rw [hml]; exact hl.1.symm) hown (hts _ w1) (hts _ w2) (hts _ w3) (hts _ w4) (by omega) (by omega) hd (kk p l e R s m args below meth c H locs cells slots mc ms ls X h1 h2 h3 h4 hS hP hl)
theorem mW_f2ib {idx : Nat} {b : UInt32} (hd : decode M.2.1 pc = .ok (.invokestatic idx, 3)) (w1 : Cond.methodLink M.1.cls idx ⟨"java/lang/Float", "floatToRawIntBits", "(F)I"⟩ ∈ mTs) (w2 : Cond.native ⟨"java/lang/Float", "floatToRawIntBits", "(F)I"⟩ ∈ mTs) (w3 : Cond.static ⟨"java/lang/Float", "floatToRawIntBits", "(F)I"⟩ ∈ mTs) (w4 : Cond.initialized "java/lang/Float" ∈ mTs) (hr : (st.map fun v => v.category).sum ≤ 8) (h0 : 1 ≤ d) (kk : mW G M d kc ks (pc + 3) lv (.int b.toInt32 :: st) w Φ) : mW G M d kc ks pc lv (.float b :: st) w Φ := by
  intro p l e R s m args below meth c H locs cells slots mc ms ls X h1 h2 h3 h4 hS hP hl
  obtain ⟨hx, hb, hml, hrr, hlocks, hown, hnm, hts, hI, hlt, hxt, hdf, hdl⟩ := id X
  exact vn_f2i hx hb (by rw [hml]; exact hl.1.symm) hown (hts _ w1) (hts _ w2) (hts _ w3) (hts _ w4) (by omega) (by omega) hd (kk p l e R s m args below meth c H locs cells slots mc ms ls X h1 h2 h3 h4 hS hP hl)
end M64
theorem n64_of {r : UInt64} (h : FP.Core.val64 r ≠ .nan) : vf_n64 r := by
  rw [FP.Core.ne_nan] at h
  unfold vf_n64
  rw [UInt64.le_iff_toNat_le, FP.Core.mask_toNat]
  exact h
theorem n32_of {r : UInt32} (h : FP.Core.val32 r ≠ .nan) : vf_n32 r := by
  rw [FP.Core.ne_nan32] at h
  unfold vf_n32
  rw [UInt32.le_iff_toNat_le, FP.Core.mask_toNat32]
  exact h
theorem cmp_self64 {r : UInt64} (h : FP.Core.val64 r ≠ .nan) : Op.cmpValue (FP.dcmp r r) .l = 0 := by
  rw [show FP.dcmp r r = some .eq from FP.Core.dcmp_self h]; rfl
theorem cmp_self32 {r : UInt32} (h : FP.Core.val32 r ≠ .nan) : Op.cmpValue (FP.fcmp r r) .l = 0 := by
  rw [show FP.fcmp r r = some .eq from FP.Core.fcmp_self h]; rfl
/-! a method of a class that has entries, where none stands for it -/
theorem vx_ofWF {l : Launch} {y : MethodName} {ws ws' : List Cond} {rm : Room} {Pc : Array Value → State → Prop} {Qc : Array Value → State → Outcome → State → Prop} {XC : String → State → State → Prop} {mc ms : Nat} {free : Addr → Prop} {cc : ByteArray} {maxL : Nat} {ret : Option FieldType}
    (hy : plainFor y = true) (hw : ws = Cond.code y cc maxL ret :: ws')
    (body : ∀ p e s m args below meth c s₁, BodyLoose p l y (headSpec ws rm) cc maxL ret e s m args below meth c s₁ → c.maxLocals = maxL → (∀ x ∈ c.exceptionTable.toList, False) → Pc args s →
      W p l e (headSpec ws rm).room s m args below meth c s.heap [] 0 0 (vx_MQ below Qc XC args s mc ms free) (entryFrame m args maxL)) : vx_Met l y ws rm Pc Qc XC mc ms free := by
  refine MetFree.of_bodySF (code := cc) (maxLocals := maxL) (ret := ret) hy ?_ ?_
  · intro args s m h hn
    obtain ⟨meth, c, h1, h2, h3, h4, h5, h6, -, -⟩ := Cond.code_spec hn (atoms_spec (ws := ws) h _ (by rw [hw]; exact List.mem_cons_self))
    exact ⟨meth, c, h1, h2, h3, h4, h5, h6⟩
  · intro p e s m args below meth c s₁ B hml hP _
    have hh0 : s₁.heap = s.heap := by rw [B.state]; rfl
    have ht : ∀ x ∈ c.exceptionTable.toList, False := by
      obtain ⟨meth9, c9, h1, h2, -, -, -, -, h7, -⟩ := Cond.code_spec B.named (atoms_spec (ws := ws) B.pre _ (by rw [hw]; exact List.mem_cons_self))
      cases Option.some.inj (h1.symm.trans B.method)
      cases Option.some.inj (h2.symm.trans (Stand.of_body B).code)
      intro x hx
      rw [Array.isEmpty_iff.mp h7] at hx
      cases hx
    obtain ⟨t, a1, o, b1, b2, b3⟩ := body p e s m args below meth c s₁ B hml ht hP s₁ hh0 (Stand.of_body B)
    exact ⟨t, o, a1, b1, b2, b3⟩
theorem mC_ofF {G : mG} {M : mM} {d kc ks : Nat} {lv : List (Nat × Value)} {w : mH} {Φ : mF} {av : List Value} (hpl : plainFor M.1 = true) (hh : M.2.2.2.2 = []) (hn : (lg_sl av).length ≤ M.2.2.1) (hlv : lv_args 0 av = lv) (k : mW G M d kc ks 0 lv [] w Φ) : mC G M d kc ks av w Φ := by
  intro l hl
  refine vx_ofWF (cc := M.2.1) (maxL := M.2.2.1) (ret := M.2.2.2.1) (ws' := mTs) hpl rfl ?_
  intro p e s m args below meth c s₁ B hml ht hP
  obtain ⟨rfl, hI, hPic⟩ := hP
  have hX : mCtx G M p l (headSpec (mws M) ({ frames := d, cells := kc, slots := ks, locals := 100 * d })).room s m av.toArray meth c d := ⟨B.exec, B.bytes, hml, B.returns, B.notSynchronized, findClass_of_methodNamed B.named, (name_of_methodNamed B.named B.method).1, fun w hw => atoms_spec (ws := mws M) B.pre w (List.mem_cons_of_mem _ hw), hI, hl, fun _ => by rw [hh]; exact List.eq_nil_iff_forall_not_mem.mpr (fun x hx => ht x hx), Nat.le_refl _, Nat.le_refl _⟩
  rw [lg_entry_eq]
  exact k p l e _ s m _ below meth c s.heap [] 0 0 kc ks _ hX (by omega) (by omega) (Nat.le_refl _) (Nat.le_refl _) va_S.rf hPic (hlv ▸ lv_entry av hn)
theorem dJxe99ae_isNaN_b9ae7_0 : decode cJxe99ae_isNaN_b9ae7 0 = .ok (.dload_n 0, 1) := by decide +kernel
theorem dJxe99ae_isNaN_b9ae7_1 : decode cJxe99ae_isNaN_b9ae7 1 = .ok (.dload_n 0, 1) := by decide +kernel
theorem dJxe99ae_isNaN_b9ae7_2 : decode cJxe99ae_isNaN_b9ae7 2 = .ok (.dcmp .l, 1) := by decide +kernel
theorem dJxe99ae_isNaN_b9ae7_3 : decode cJxe99ae_isNaN_b9ae7 3 = .ok (.ifCond .eq 7, 3) := by decide +kernel
theorem dJxe99ae_isNaN_b9ae7_6 : decode cJxe99ae_isNaN_b9ae7 6 = .ok (.iconst 1, 1) := by decide +kernel
theorem dJxe99ae_isNaN_b9ae7_7 : decode cJxe99ae_isNaN_b9ae7 7 = .ok (.goto 4, 3) := by decide +kernel
theorem dJxe99ae_isNaN_b9ae7_10 : decode cJxe99ae_isNaN_b9ae7 10 = .ok (.iconst 0, 1) := by decide +kernel
theorem dJxe99ae_isNaN_b9ae7_11 : decode cJxe99ae_isNaN_b9ae7 11 = .ok (.ireturn, 1) := by decide +kernel
theorem dJxf58ca_isNaN_12338_0 : decode cJxf58ca_isNaN_12338 0 = .ok (.fload_n 0, 1) := by decide +kernel
theorem dJxf58ca_isNaN_12338_1 : decode cJxf58ca_isNaN_12338 1 = .ok (.fload_n 0, 1) := by decide +kernel
theorem dJxf58ca_isNaN_12338_2 : decode cJxf58ca_isNaN_12338 2 = .ok (.fcmp .l, 1) := by decide +kernel
theorem dJxf58ca_isNaN_12338_3 : decode cJxf58ca_isNaN_12338 3 = .ok (.ifCond .eq 7, 3) := by decide +kernel
theorem dJxf58ca_isNaN_12338_6 : decode cJxf58ca_isNaN_12338 6 = .ok (.iconst 1, 1) := by decide +kernel
theorem dJxf58ca_isNaN_12338_7 : decode cJxf58ca_isNaN_12338 7 = .ok (.goto 4, 3) := by decide +kernel
theorem dJxf58ca_isNaN_12338_10 : decode cJxf58ca_isNaN_12338 10 = .ok (.iconst 0, 1) := by decide +kernel
theorem dJxf58ca_isNaN_12338_11 : decode cJxf58ca_isNaN_12338 11 = .ok (.ireturn, 1) := by decide +kernel
theorem dJxe99ae_doubleToLongBits_ccdee_0 : decode cJxe99ae_doubleToLongBits_ccdee 0 = .ok (.dload_n 0, 1) := by decide +kernel
theorem dJxe99ae_doubleToLongBits_ccdee_1 : decode cJxe99ae_doubleToLongBits_ccdee 1 = .ok (.invokestatic 122, 3) := by decide +kernel
theorem dJxe99ae_doubleToLongBits_ccdee_4 : decode cJxe99ae_doubleToLongBits_ccdee 4 = .ok (.ifCond .ne 8, 3) := by decide +kernel
theorem dJxe99ae_doubleToLongBits_ccdee_7 : decode cJxe99ae_doubleToLongBits_ccdee 7 = .ok (.dload_n 0, 1) := by decide +kernel
theorem dJxe99ae_doubleToLongBits_ccdee_8 : decode cJxe99ae_doubleToLongBits_ccdee 8 = .ok (.invokestatic 134, 3) := by decide +kernel
theorem dJxe99ae_doubleToLongBits_ccdee_11 : decode cJxe99ae_doubleToLongBits_ccdee 11 = .ok (.lreturn, 1) := by decide +kernel
theorem dJxe99ae_doubleToLongBits_ccdee_12 : decode cJxe99ae_doubleToLongBits_ccdee 12 = .ok (.ldc2_w 137, 3) := by decide +kernel
theorem dJxe99ae_doubleToLongBits_ccdee_15 : decode cJxe99ae_doubleToLongBits_ccdee 15 = .ok (.lreturn, 1) := by decide +kernel
theorem dJxf58ca_floatToIntBits_5c35a_0 : decode cJxf58ca_floatToIntBits_5c35a 0 = .ok (.fload_n 0, 1) := by decide +kernel
theorem dJxf58ca_floatToIntBits_5c35a_1 : decode cJxf58ca_floatToIntBits_5c35a 1 = .ok (.invokestatic 59, 3) := by decide +kernel
theorem dJxf58ca_floatToIntBits_5c35a_4 : decode cJxf58ca_floatToIntBits_5c35a 4 = .ok (.ifCond .ne 8, 3) := by decide +kernel
theorem dJxf58ca_floatToIntBits_5c35a_7 : decode cJxf58ca_floatToIntBits_5c35a 7 = .ok (.fload_n 0, 1) := by decide +kernel
theorem dJxf58ca_floatToIntBits_5c35a_8 : decode cJxf58ca_floatToIntBits_5c35a 8 = .ok (.invokestatic 74, 3) := by decide +kernel
theorem dJxf58ca_floatToIntBits_5c35a_11 : decode cJxf58ca_floatToIntBits_5c35a 11 = .ok (.ireturn, 1) := by decide +kernel
theorem dJxf58ca_floatToIntBits_5c35a_12 : decode cJxf58ca_floatToIntBits_5c35a 12 = .ok (.ldc 77, 2) := by decide +kernel
theorem dJxf58ca_floatToIntBits_5c35a_14 : decode cJxf58ca_floatToIntBits_5c35a 14 = .ok (.ireturn, 1) := by decide +kernel
abbrev mJxe99ae_isNaN_b9ae7 : mM := (yJxe99ae_isNaN_b9ae7, cJxe99ae_isNaN_b9ae7, 2, (some .boolean), [])
def vJxe99ae_isNaN_b9ae7 (z0 : UInt64) : Int32 := (if (Op.cmpValue (FP.dcmp z0 z0) .l) = 0 then 0 else 1)
set_option maxHeartbeats 4000000 in
set_option maxRecDepth 100000 in
theorem qJxe99ae_isNaN_b9ae7 {G : mG} {w : mH} {z0 : UInt64}  : mC G mJxe99ae_isNaN_b9ae7 1 0 0 [.double z0] w (mEq (.inl (some (.int (vJxe99ae_isNaN_b9ae7 z0)))) w) := by
  refine mC_of (by decide +kernel) rfl (Nat.le_of_ble_eq_true rfl) rfl ?_
  refine mW_dload_n (j := 0) dJxe99ae_isNaN_b9ae7_0 rfl rfl ?_
  refine mW_dload_n (j := 0) dJxe99ae_isNaN_b9ae7_1 rfl rfl ?_
  refine mW_dcmp dJxe99ae_isNaN_b9ae7_2 ?_
  refine mW_if_eq (tgt := 10) dJxe99ae_isNaN_b9ae7_3 (by decide) (fun c1 => ?_) (fun c1 => ?_)
  · refine mW_iconst (v := 0) dJxe99ae_isNaN_b9ae7_10 (by decide) ?_
    exact mW_zret (ty := .boolean) dJxe99ae_isNaN_b9ae7_11 rfl (by first | rfl | decide) (⟨by first | with_reducible rfl | (simp only [vJxe99ae_isNaN_b9ae7, if_pos c1]; done) | rfl, by first | with_reducible rfl | (simp only [vJxe99ae_isNaN_b9ae7, if_pos c1]; done) | rfl⟩)
  · refine mW_iconst (v := 1) dJxe99ae_isNaN_b9ae7_6 (by decide) ?_
    refine mW_goto (tgt := 11) dJxe99ae_isNaN_b9ae7_7 (by decide) ?_
    exact mW_zret (ty := .boolean) dJxe99ae_isNaN_b9ae7_11 rfl (by first | rfl | decide) (⟨by first | with_reducible rfl | (simp only [vJxe99ae_isNaN_b9ae7, if_neg c1]; done) | rfl, by first | with_reducible rfl | (simp only [vJxe99ae_isNaN_b9ae7, if_neg c1]; done) | rfl⟩)
abbrev mJxf58ca_isNaN_12338 : mM := (yJxf58ca_isNaN_12338, cJxf58ca_isNaN_12338, 1, (some .boolean), [])
def vJxf58ca_isNaN_12338 (f0 : UInt32) : Int32 := (if (Op.cmpValue (FP.fcmp f0 f0) .l) = 0 then 0 else 1)
set_option maxHeartbeats 4000000 in
set_option maxRecDepth 100000 in
theorem qJxf58ca_isNaN_12338 {G : mG} {w : mH} {f0 : UInt32}  : mC G mJxf58ca_isNaN_12338 1 0 0 [.float f0] w (mEq (.inl (some (.int (vJxf58ca_isNaN_12338 f0)))) w) := by
  refine mC_ofF (by decide +kernel) rfl (Nat.le_of_ble_eq_true rfl) rfl ?_
  refine mW_fload_n (j := 0) dJxf58ca_isNaN_12338_0 rfl rfl ?_
  refine mW_fload_n (j := 0) dJxf58ca_isNaN_12338_1 rfl rfl ?_
  refine mW_fcmp dJxf58ca_isNaN_12338_2 ?_
  refine mW_if_eq (tgt := 10) dJxf58ca_isNaN_12338_3 (by decide) (fun c1 => ?_) (fun c1 => ?_)
  · refine mW_iconst (v := 0) dJxf58ca_isNaN_12338_10 (by decide) ?_
    exact mW_zret (ty := .boolean) dJxf58ca_isNaN_12338_11 rfl (by first | rfl | decide) (⟨by first | with_reducible rfl | (simp only [vJxf58ca_isNaN_12338, if_pos c1]; done) | rfl, by first | with_reducible rfl | (simp only [vJxf58ca_isNaN_12338, if_pos c1]; done) | rfl⟩)
  · refine mW_iconst (v := 1) dJxf58ca_isNaN_12338_6 (by decide) ?_
    refine mW_goto (tgt := 11) dJxf58ca_isNaN_12338_7 (by decide) ?_
    exact mW_zret (ty := .boolean) dJxf58ca_isNaN_12338_11 rfl (by first | rfl | decide) (⟨by first | with_reducible rfl | (simp only [vJxf58ca_isNaN_12338, if_neg c1]; done) | rfl, by first | with_reducible rfl | (simp only [vJxf58ca_isNaN_12338, if_neg c1]; done) | rfl⟩)
abbrev mJxe99ae_doubleToLongBits_ccdee : mM := (yJxe99ae_doubleToLongBits_ccdee, cJxe99ae_doubleToLongBits_ccdee, 2, (some .long), [])
theorem u1894 : (Cond.code ⟨"java/lang/Double", "isNaN", "(D)Z"⟩ prog_21_method_6_code 2 (some .boolean) : Cond) ∈ mTs := mTs_in 1894 (by decide +kernel) (by decide +kernel)
theorem u103 : (Cond.initialized "java/lang/Double" : Cond) ∈ mTs := mTs_in 103 (by decide +kernel) (by decide +kernel)
theorem co_Jxe99ae_isNaN_b9ae7 : mCode mJxe99ae_isNaN_b9ae7 := ⟨u1894, u103, by decide⟩
theorem u1892 : (Cond.methodLink "java/lang/Double" 122 ⟨"java/lang/Double", "isNaN", "(D)Z"⟩ : Cond) ∈ mTs := mTs_in 1892 (by decide +kernel) (by decide +kernel)
theorem u1893 : (Cond.static ⟨"java/lang/Double", "isNaN", "(D)Z"⟩ : Cond) ∈ mTs := mTs_in 1893 (by decide +kernel) (by decide +kernel)
theorem l_Jxe99ae_122 : mLinkS "java/lang/Double" 122 1 mJxe99ae_isNaN_b9ae7 := ⟨⟨by decide, by decide, by decide +kernel⟩, co_Jxe99ae_isNaN_b9ae7, u1892, u1893⟩
theorem u1898 : (Cond.constantLong "java/lang/Double" 137 9221120237041090560 : Cond) ∈ mTs := mTs_in 1898 (by decide +kernel) (by decide +kernel)
theorem u1895 : (Cond.methodLink "java/lang/Double" 134 ⟨"java/lang/Double", "doubleToRawLongBits", "(D)J"⟩ : Cond) ∈ mTs := mTs_in 1895 (by decide +kernel) (by decide +kernel)
theorem u1897 : (Cond.native ⟨"java/lang/Double", "doubleToRawLongBits", "(D)J"⟩ : Cond) ∈ mTs := mTs_in 1897 (by decide +kernel) (by decide +kernel)
theorem u1896 : (Cond.static ⟨"java/lang/Double", "doubleToRawLongBits", "(D)J"⟩ : Cond) ∈ mTs := mTs_in 1896 (by decide +kernel) (by decide +kernel)
set_option maxHeartbeats 4000000 in
set_option maxRecDepth 100000 in
theorem gJxe99ae_doubleToLongBits_ccdee_0 {G : mG} {w : mH} {Φ : mF} {z0 : UInt64}  (k1 : (¬ ((vJxe99ae_isNaN_b9ae7 z0) = 0)) → Φ (.inl (some (.long 9221120237041090560))) w) (k2 : ((vJxe99ae_isNaN_b9ae7 z0) = 0) → Φ (.inl (some (.long z0.toInt64))) w) : mW G mJxe99ae_doubleToLongBits_ccdee 2 0 0 0 [(0, .double z0)] [] w Φ := by
  refine mW_dload_n (j := 0) dJxe99ae_doubleToLongBits_ccdee_0 rfl rfl ?_
  refine mW_callSe (As := [.double z0]) (rest := []) (kc2 := 0) (ks2 := 0) dJxe99ae_doubleToLongBits_ccdee_1 l_Jxe99ae_122 rfl (qJxe99ae_isNaN_b9ae7 (w := w) (z0 := z0)) (Nat.le_of_ble_eq_true rfl) (by decide) rfl rfl ?_
  refine mW_if_ne (tgt := 12) dJxe99ae_doubleToLongBits_ccdee_4 (by decide) (fun c1 => ?_) (fun c1 => ?_)
  · refine mW_ldc2 (v := 9221120237041090560) dJxe99ae_doubleToLongBits_ccdee_12 u1898 ?_
    exact mW_lret dJxe99ae_doubleToLongBits_ccdee_15 rfl (k1 c1)
  · refine mW_dload_n (j := 0) dJxe99ae_doubleToLongBits_ccdee_7 rfl rfl ?_
    refine mW_d2lb dJxe99ae_doubleToLongBits_ccdee_8 u1895 u1897 u1896 u103 (Nat.le_of_ble_eq_true rfl) (by decide) ?_
    exact mW_lret dJxe99ae_doubleToLongBits_ccdee_11 rfl (k2 c1)
abbrev mJxf58ca_floatToIntBits_5c35a : mM := (yJxf58ca_floatToIntBits_5c35a, cJxf58ca_floatToIntBits_5c35a, 1, (some .int), [])
theorem u1908 : (Cond.code ⟨"java/lang/Float", "isNaN", "(F)Z"⟩ prog_23_method_6_code 1 (some .boolean) : Cond) ∈ mTs := mTs_in 1908 (by decide +kernel) (by decide +kernel)
theorem u104 : (Cond.initialized "java/lang/Float" : Cond) ∈ mTs := mTs_in 104 (by decide +kernel) (by decide +kernel)
theorem co_Jxf58ca_isNaN_12338 : mCode mJxf58ca_isNaN_12338 := ⟨u1908, u104, by decide⟩
theorem u1906 : (Cond.methodLink "java/lang/Float" 59 ⟨"java/lang/Float", "isNaN", "(F)Z"⟩ : Cond) ∈ mTs := mTs_in 1906 (by decide +kernel) (by decide +kernel)
theorem u1907 : (Cond.static ⟨"java/lang/Float", "isNaN", "(F)Z"⟩ : Cond) ∈ mTs := mTs_in 1907 (by decide +kernel) (by decide +kernel)
theorem l_Jxf58ca_59 : mLinkS "java/lang/Float" 59 1 mJxf58ca_isNaN_12338 := ⟨⟨by decide, by decide, by decide +kernel⟩, co_Jxf58ca_isNaN_12338, u1906, u1907⟩
theorem u1912 : (Cond.constant "java/lang/Float" 77 2143289344 : Cond) ∈ mTs := mTs_in 1912 (by decide +kernel) (by decide +kernel)
theorem u1909 : (Cond.methodLink "java/lang/Float" 74 ⟨"java/lang/Float", "floatToRawIntBits", "(F)I"⟩ : Cond) ∈ mTs := mTs_in 1909 (by decide +kernel) (by decide +kernel)
theorem u1911 : (Cond.native ⟨"java/lang/Float", "floatToRawIntBits", "(F)I"⟩ : Cond) ∈ mTs := mTs_in 1911 (by decide +kernel) (by decide +kernel)
theorem u1910 : (Cond.static ⟨"java/lang/Float", "floatToRawIntBits", "(F)I"⟩ : Cond) ∈ mTs := mTs_in 1910 (by decide +kernel) (by decide +kernel)
set_option maxHeartbeats 4000000 in
set_option maxRecDepth 100000 in
theorem gJxf58ca_floatToIntBits_5c35a_0 {G : mG} {w : mH} {Φ : mF} {f0 : UInt32}  (k1 : (¬ ((vJxf58ca_isNaN_12338 f0) = 0)) → Φ (.inl (some (.int 2143289344))) w) (k2 : ((vJxf58ca_isNaN_12338 f0) = 0) → Φ (.inl (some (.int f0.toInt32))) w) : mW G mJxf58ca_floatToIntBits_5c35a 2 0 0 0 [(0, .float f0)] [] w Φ := by
  refine mW_fload_n (j := 0) dJxf58ca_floatToIntBits_5c35a_0 rfl rfl ?_
  refine mW_callSe (As := [.float f0]) (rest := []) (kc2 := 0) (ks2 := 0) dJxf58ca_floatToIntBits_5c35a_1 l_Jxf58ca_59 rfl (qJxf58ca_isNaN_12338 (w := w) (f0 := f0)) (Nat.le_of_ble_eq_true rfl) (by decide) rfl rfl ?_
  refine mW_if_ne (tgt := 12) dJxf58ca_floatToIntBits_5c35a_4 (by decide) (fun c1 => ?_) (fun c1 => ?_)
  · refine mW_ldc (v := 2143289344) dJxf58ca_floatToIntBits_5c35a_12 u1912 ?_
    exact mW_iret dJxf58ca_floatToIntBits_5c35a_14 rfl (k1 c1)
  · refine mW_fload_n (j := 0) dJxf58ca_floatToIntBits_5c35a_7 rfl rfl ?_
    refine mW_f2ib dJxf58ca_floatToIntBits_5c35a_8 u1909 u1911 u1910 u104 (Nat.le_of_ble_eq_true rfl) (by decide) ?_
    exact mW_iret dJxf58ca_floatToIntBits_5c35a_11 rfl (k2 c1)
theorem qDL {G : mG} {w : mH} {z0 : UInt64} (h : FP.Core.val64 z0 ≠ .nan) : mC G mJxe99ae_doubleToLongBits_ccdee 2 0 0 [.double z0] w (mEq (.inl (some (.long z0.toInt64))) w) := by
  have e : vJxe99ae_isNaN_b9ae7 z0 = 0 := by unfold vJxe99ae_isNaN_b9ae7; rw [if_pos (cmp_self64 h)]
  refine mC_of (by decide +kernel) rfl (Nat.le_of_ble_eq_true rfl) rfl ?_
  refine gJxe99ae_doubleToLongBits_ccdee_0 ?_ ?_
  · intro c1
    exact absurd e c1
  · intro _
    exact mEq_rf
theorem qFI {G : mG} {w : mH} {f0 : UInt32} (h : FP.Core.val32 f0 ≠ .nan) : mC G mJxf58ca_floatToIntBits_5c35a 2 0 0 [.float f0] w (mEq (.inl (some (.int f0.toInt32))) w) := by
  have e : vJxf58ca_isNaN_12338 f0 = 0 := by unfold vJxf58ca_isNaN_12338; rw [if_pos (cmp_self32 h)]
  refine mC_ofF (by decide +kernel) rfl (Nat.le_of_ble_eq_true rfl) rfl ?_
  refine gJxf58ca_floatToIntBits_5c35a_0 ?_ ?_
  · intro c1
    exact absurd e c1
  · intro _
    exact mEq_rf
