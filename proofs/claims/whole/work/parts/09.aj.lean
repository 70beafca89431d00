section MJ
variable {G : mG} {M : mM} {d kc ks pc : Nat} {lv : List (Nat × Value)} {st : List Value} {w : mH} {Φ : mF}
theorem mW_ialdJ {a n j : Nat} {i : Int32} (hd : decode M.2.1 pc = .ok (.iaload, 1)) (hkd : hk w a = (16, n)) (hin : vp_in i n) (hj : i.toNatClampNeg = j) (kk : mW G M d kc ks (pc + 1) lv (.int (hai w a j) :: st) w Φ) : mW G M d kc ks pc lv (.int i :: .ref a :: st) w Φ := by subst hj; exact mW_iald hd hkd hin kk
theorem mW_caldJ {a n j : Nat} {i : Int32} (hd : decode M.2.1 pc = .ok (.caload, 1)) (hkd : hk w a = (18, n)) (hin : vp_in i n) (hj : i.toNatClampNeg = j) (kk : mW G M d kc ks (pc + 1) lv (.int (hai w a j) :: st) w Φ) : mW G M d kc ks pc lv (.int i :: .ref a :: st) w Φ := by subst hj; exact mW_cald hd hkd hin kk
theorem mW_baldJ {a n j : Nat} {i : Int32} (hd : decode M.2.1 pc = .ok (.baload, 1)) (hkd : hk w a = (19, n)) (hin : vp_in i n) (hj : i.toNatClampNeg = j) (kk : mW G M d kc ks (pc + 1) lv (.int (hai w a j) :: st) w Φ) : mW G M d kc ks pc lv (.int i :: .ref a :: st) w Φ := by subst hj; exact mW_bald hd hkd hin kk
theorem mW_zaldJ {a n j : Nat} {i : Int32} (hd : decode M.2.1 pc = .ok (.baload, 1)) (hkd : hk w a = (20, n)) (hin : vp_in i n) (hj : i.toNatClampNeg = j) (kk : mW G M d kc ks (pc + 1) lv (.int (hai w a j) :: st) w Φ) : mW G M d kc ks pc lv (.int i :: .ref a :: st) w Φ := by subst hj; exact mW_zald hd hkd hin kk
theorem mW_laldJ {a n j : Nat} {i : Int32} (hd : decode M.2.1 pc = .ok (.laload, 1)) (hkd : hk w a = (17, n)) (hin : vp_in i n) (hj : i.toNatClampNeg = j) (kk : mW G M d kc ks (pc + 1) lv (.long (hal w a j) :: st) w Φ) : mW G M d kc ks pc lv (.int i :: .ref a :: st) w Φ := by subst hj; exact mW_lald hd hkd hin kk
theorem mW_iastJ {a n j : Nat} {i x : Int32} (hd : decode M.2.1 pc = .ok (.iastore, 1)) (hkd : hk w a = (16, n)) (hin : vp_in i n) (hj : i.toNatClampNeg = j) (kk : mW G M d kc ks (pc + 1) lv st (sai w a j x) Φ) : mW G M d kc ks pc lv (.int x :: .int i :: .ref a :: st) w Φ := by subst hj; exact mW_iast hd hkd hin kk
theorem mW_castJ {a n j : Nat} {i x : Int32} (hd : decode M.2.1 pc = .ok (.castore, 1)) (hkd : hk w a = (18, n)) (hin : vp_in i n) (hj : i.toNatClampNeg = j) (kk : mW G M d kc ks (pc + 1) lv st (sai w a j (vp_nar .char x)) Φ) : mW G M d kc ks pc lv (.int x :: .int i :: .ref a :: st) w Φ := by subst hj; exact mW_cast hd hkd hin kk
theorem mW_bastJ {a n j : Nat} {i x : Int32} (hd : decode M.2.1 pc = .ok (.bastore, 1)) (hkd : hk w a = (19, n)) (hin : vp_in i n) (hj : i.toNatClampNeg = j) (kk : mW G M d kc ks (pc + 1) lv st (sai w a j (vp_nar .byte x)) Φ) : mW G M d kc ks pc lv (.int x :: .int i :: .ref a :: st) w Φ := by subst hj; exact mW_bast hd hkd hin kk
theorem mW_zastJ {a n j : Nat} {i x : Int32} (hd : decode M.2.1 pc = .ok (.bastore, 1)) (hkd : hk w a = (20, n)) (hin : vp_in i n) (hj : i.toNatClampNeg = j) (kk : mW G M d kc ks (pc + 1) lv st (sai w a j (vp_nar .boolean x)) Φ) : mW G M d kc ks pc lv (.int x :: .int i :: .ref a :: st) w Φ := by subst hj; exact mW_zast hd hkd hin kk
theorem mW_lastJ {a n j : Nat} {i : Int32} {x : Int64} (hd : decode M.2.1 pc = .ok (.lastore, 1)) (hkd : hk w a = (17, n)) (hin : vp_in i n) (hj : i.toNatClampNeg = j) (kk : mW G M d kc ks (pc + 1) lv st (sal w a j x) Φ) : mW G M d kc ks pc lv (.long x :: .int i :: .ref a :: st) w Φ := by subst hj; exact mW_last hd hkd hin kk
theorem mW_saldJ {i k : Nat} {j : Int32} (hd : decode M.2.1 pc = .ok (.iaload, 1)) (hi : i < 3) (hin : vp_in j 15) (hj : j.toNatClampNeg = k) (kk : mW G M d kc ks (pc + 1) lv (.int ((mSv i).getD k 0) :: st) w Φ) : mW G M d kc ks pc lv (.int j :: .ref (G.2.2.2 i) :: st) w Φ := by subst hj; exact mW_sald hd hi hin kk
end MJ
section MK2
theorem k_sfi {w : mH} {a k b : Nat} {v : Int32} {x : Nat × Nat} (h : hk w b = x) : hk (sfi w a k v) b = x := h
theorem r_sfi {w : mH} {a k b j : Nat} {v : Int32} {x : Option Nat} (h : hfr w b j = x) : hfr (sfi w a k v) b j = x := h
theorem k_sfl {w : mH} {a k b : Nat} {v : Int64} {x : Nat × Nat} (h : hk w b = x) : hk (sfl w a k v) b = x := h
theorem r_sfl {w : mH} {a k b j : Nat} {v : Int64} {x : Option Nat} (h : hfr w b j = x) : hfr (sfl w a k v) b j = x := h
theorem k_sai {w : mH} {a k b : Nat} {v : Int32} {x : Nat × Nat} (h : hk w b = x) : hk (sai w a k v) b = x := h
theorem r_sai {w : mH} {a k b j : Nat} {v : Int32} {x : Option Nat} (h : hfr w b j = x) : hfr (sai w a k v) b j = x := h
theorem k_sal {w : mH} {a k b : Nat} {v : Int64} {x : Nat × Nat} (h : hk w b = x) : hk (sal w a k v) b = x := h
theorem r_sal {w : mH} {a k b j : Nat} {v : Int64} {x : Option Nat} (h : hfr w b j = x) : hfr (sal w a k v) b j = x := h
theorem k_sax {w : mH} {a b : Nat} {g : Nat → Int32} {x : Nat × Nat} (h : hk w b = x) : hk (sax w a g) b = x := h
theorem r_sax {w : mH} {a b j : Nat} {g : Nat → Int32} {x : Option Nat} (h : hfr w b j = x) : hfr (sax w a g) b j = x := h
theorem k_eq {w w2 : mH} {b : Nat} {x : Nat × Nat} (e : hk w2 = hk w) (h : hk w b = x) : hk w2 b = x := by rw [e]; exact h
theorem r_eq {w w2 : mH} {b j : Nat} {x : Option Nat} (e : hfr w2 = hfr w) (h : hfr w b j = x) : hfr w2 b j = x := by rw [e]; exact h
end MK2
theorem e_hN_sfi (w : mH) (a k : Nat) (v : Int32) : hN (sfi w a k v) = hN w := (hN_sfi w a k v).trans (Eq.refl _)
theorem e_hk_sfi (w : mH) (a k : Nat) (v : Int32) : hk (sfi w a k v) = hk w := (hk_sfi w a k v).trans (Eq.refl _)
theorem e_hfi_sfi (w : mH) (a k : Nat) (v : Int32) : hfi (sfi w a k v) = up2 (hfi w) a k v := (hfi_sfi w a k v).trans (Eq.refl _)
theorem e_hfl_sfi (w : mH) (a k : Nat) (v : Int32) : hfl (sfi w a k v) = hfl w := (hfl_sfi w a k v).trans (Eq.refl _)
theorem e_hfr_sfi (w : mH) (a k : Nat) (v : Int32) : hfr (sfi w a k v) = hfr w := (hfr_sfi w a k v).trans (Eq.refl _)
theorem e_hai_sfi (w : mH) (a k : Nat) (v : Int32) : hai (sfi w a k v) = hai w := (hai_sfi w a k v).trans (Eq.refl _)
theorem e_hal_sfi (w : mH) (a k : Nat) (v : Int32) : hal (sfi w a k v) = hal w := (hal_sfi w a k v).trans (Eq.refl _)
theorem e_har_sfi (w : mH) (a k : Nat) (v : Int32) : har (sfi w a k v) = har w := (har_sfi w a k v).trans (Eq.refl _)
theorem e_hN_sfl (w : mH) (a k : Nat) (v : Int64) : hN (sfl w a k v) = hN w := (hN_sfl w a k v).trans (Eq.refl _)
theorem e_hk_sfl (w : mH) (a k : Nat) (v : Int64) : hk (sfl w a k v) = hk w := (hk_sfl w a k v).trans (Eq.refl _)
theorem e_hfi_sfl (w : mH) (a k : Nat) (v : Int64) : hfi (sfl w a k v) = hfi w := (hfi_sfl w a k v).trans (Eq.refl _)
theorem e_hfl_sfl (w : mH) (a k : Nat) (v : Int64) : hfl (sfl w a k v) = up2 (hfl w) a k v := (hfl_sfl w a k v).trans (Eq.refl _)
theorem e_hfr_sfl (w : mH) (a k : Nat) (v : Int64) : hfr (sfl w a k v) = hfr w := (hfr_sfl w a k v).trans (Eq.refl _)
theorem e_hai_sfl (w : mH) (a k : Nat) (v : Int64) : hai (sfl w a k v) = hai w := (hai_sfl w a k v).trans (Eq.refl _)
theorem e_hal_sfl (w : mH) (a k : Nat) (v : Int64) : hal (sfl w a k v) = hal w := (hal_sfl w a k v).trans (Eq.refl _)
theorem e_har_sfl (w : mH) (a k : Nat) (v : Int64) : har (sfl w a k v) = har w := (har_sfl w a k v).trans (Eq.refl _)
theorem e_hN_sfr (w : mH) (a k : Nat) (v : Option Nat) : hN (sfr w a k v) = hN w := (hN_sfr w a k v).trans (Eq.refl _)
theorem e_hk_sfr (w : mH) (a k : Nat) (v : Option Nat) : hk (sfr w a k v) = hk w := (hk_sfr w a k v).trans (Eq.refl _)
theorem e_hfi_sfr (w : mH) (a k : Nat) (v : Option Nat) : hfi (sfr w a k v) = hfi w := (hfi_sfr w a k v).trans (Eq.refl _)
theorem e_hfl_sfr (w : mH) (a k : Nat) (v : Option Nat) : hfl (sfr w a k v) = hfl w := (hfl_sfr w a k v).trans (Eq.refl _)
theorem e_hfr_sfr (w : mH) (a k : Nat) (v : Option Nat) : hfr (sfr w a k v) = up2 (hfr w) a k v := (hfr_sfr w a k v).trans (Eq.refl _)
theorem e_hai_sfr (w : mH) (a k : Nat) (v : Option Nat) : hai (sfr w a k v) = hai w := (hai_sfr w a k v).trans (Eq.refl _)
theorem e_hal_sfr (w : mH) (a k : Nat) (v : Option Nat) : hal (sfr w a k v) = hal w := (hal_sfr w a k v).trans (Eq.refl _)
theorem e_har_sfr (w : mH) (a k : Nat) (v : Option Nat) : har (sfr w a k v) = har w := (har_sfr w a k v).trans (Eq.refl _)
theorem e_hN_sai (w : mH) (a k : Nat) (v : Int32) : hN (sai w a k v) = hN w := (hN_sai w a k v).trans (Eq.refl _)
theorem e_hk_sai (w : mH) (a k : Nat) (v : Int32) : hk (sai w a k v) = hk w := (hk_sai w a k v).trans (Eq.refl _)
theorem e_hfi_sai (w : mH) (a k : Nat) (v : Int32) : hfi (sai w a k v) = hfi w := (hfi_sai w a k v).trans (Eq.refl _)
theorem e_hfl_sai (w : mH) (a k : Nat) (v : Int32) : hfl (sai w a k v) = hfl w := (hfl_sai w a k v).trans (Eq.refl _)
theorem e_hfr_sai (w : mH) (a k : Nat) (v : Int32) : hfr (sai w a k v) = hfr w := (hfr_sai w a k v).trans (Eq.refl _)
theorem e_hai_sai (w : mH) (a k : Nat) (v : Int32) : hai (sai w a k v) = up2 (hai w) a k v := (hai_sai w a k v).trans (Eq.refl _)
theorem e_hal_sai (w : mH) (a k : Nat) (v : Int32) : hal (sai w a k v) = hal w := (hal_sai w a k v).trans (Eq.refl _)
theorem e_har_sai (w : mH) (a k : Nat) (v : Int32) : har (sai w a k v) = har w := (har_sai w a k v).trans (Eq.refl _)
theorem e_hN_sal (w : mH) (a k : Nat) (v : Int64) : hN (sal w a k v) = hN w := (hN_sal w a k v).trans (Eq.refl _)
theorem e_hk_sal (w : mH) (a k : Nat) (v : Int64) : hk (sal w a k v) = hk w := (hk_sal w a k v).trans (Eq.refl _)
theorem e_hfi_sal (w : mH) (a k : Nat) (v : Int64) : hfi (sal w a k v) = hfi w := (hfi_sal w a k v).trans (Eq.refl _)
theorem e_hfl_sal (w : mH) (a k : Nat) (v : Int64) : hfl (sal w a k v) = hfl w := (hfl_sal w a k v).trans (Eq.refl _)
theorem e_hfr_sal (w : mH) (a k : Nat) (v : Int64) : hfr (sal w a k v) = hfr w := (hfr_sal w a k v).trans (Eq.refl _)
theorem e_hai_sal (w : mH) (a k : Nat) (v : Int64) : hai (sal w a k v) = hai w := (hai_sal w a k v).trans (Eq.refl _)
theorem e_hal_sal (w : mH) (a k : Nat) (v : Int64) : hal (sal w a k v) = up2 (hal w) a k v := (hal_sal w a k v).trans (Eq.refl _)
theorem e_har_sal (w : mH) (a k : Nat) (v : Int64) : har (sal w a k v) = har w := (har_sal w a k v).trans (Eq.refl _)
theorem e_hN_sar (w : mH) (a k : Nat) (v : Option Nat) : hN (sar w a k v) = hN w := (hN_sar w a k v).trans (Eq.refl _)
theorem e_hk_sar (w : mH) (a k : Nat) (v : Option Nat) : hk (sar w a k v) = hk w := (hk_sar w a k v).trans (Eq.refl _)
theorem e_hfi_sar (w : mH) (a k : Nat) (v : Option Nat) : hfi (sar w a k v) = hfi w := (hfi_sar w a k v).trans (Eq.refl _)
theorem e_hfl_sar (w : mH) (a k : Nat) (v : Option Nat) : hfl (sar w a k v) = hfl w := (hfl_sar w a k v).trans (Eq.refl _)
theorem e_hfr_sar (w : mH) (a k : Nat) (v : Option Nat) : hfr (sar w a k v) = hfr w := (hfr_sar w a k v).trans (Eq.refl _)
theorem e_hai_sar (w : mH) (a k : Nat) (v : Option Nat) : hai (sar w a k v) = hai w := (hai_sar w a k v).trans (Eq.refl _)
theorem e_hal_sar (w : mH) (a k : Nat) (v : Option Nat) : hal (sar w a k v) = hal w := (hal_sar w a k v).trans (Eq.refl _)
theorem e_har_sar (w : mH) (a k : Nat) (v : Option Nat) : har (sar w a k v) = up2 (har w) a k v := (har_sar w a k v).trans (Eq.refl _)
theorem e_hN_sax (w : mH) (a : Nat) (g : Nat → Int32) : hN (sax w a g) = hN w := (hN_sax w a g).trans (Eq.refl _)
theorem e_hk_sax (w : mH) (a : Nat) (g : Nat → Int32) : hk (sax w a g) = hk w := (hk_sax w a g).trans (Eq.refl _)
theorem e_hfi_sax (w : mH) (a : Nat) (g : Nat → Int32) : hfi (sax w a g) = hfi w := (hfi_sax w a g).trans (Eq.refl _)
theorem e_hfl_sax (w : mH) (a : Nat) (g : Nat → Int32) : hfl (sax w a g) = hfl w := (hfl_sax w a g).trans (Eq.refl _)
theorem e_hfr_sax (w : mH) (a : Nat) (g : Nat → Int32) : hfr (sax w a g) = hfr w := (hfr_sax w a g).trans (Eq.refl _)
theorem e_hai_sax (w : mH) (a : Nat) (g : Nat → Int32) : hai (sax w a g) = va_up (hai w) a g := (hai_sax w a g).trans (Eq.refl _)
theorem e_hal_sax (w : mH) (a : Nat) (g : Nat → Int32) : hal (sax w a g) = hal w := (hal_sax w a g).trans (Eq.refl _)
theorem e_har_sax (w : mH) (a : Nat) (g : Nat → Int32) : har (sax w a g) = har w := (har_sax w a g).trans (Eq.refl _)
theorem e_hN_snn (w : mH) (n : Nat) : hN (snn w n) = n := (hN_snn w n).trans (Eq.refl _)
theorem e_hk_snn (w : mH) (n : Nat) : hk (snn w n) = hk w := (hk_snn w n).trans (Eq.refl _)
theorem e_hfi_snn (w : mH) (n : Nat) : hfi (snn w n) = hfi w := (hfi_snn w n).trans (Eq.refl _)
theorem e_hfl_snn (w : mH) (n : Nat) : hfl (snn w n) = hfl w := (hfl_snn w n).trans (Eq.refl _)
theorem e_hfr_snn (w : mH) (n : Nat) : hfr (snn w n) = hfr w := (hfr_snn w n).trans (Eq.refl _)
theorem e_hai_snn (w : mH) (n : Nat) : hai (snn w n) = hai w := (hai_snn w n).trans (Eq.refl _)
theorem e_hal_snn (w : mH) (n : Nat) : hal (snn w n) = hal w := (hal_snn w n).trans (Eq.refl _)
theorem e_har_snn (w : mH) (n : Nat) : har (snn w n) = har w := (har_snn w n).trans (Eq.refl _)
theorem m_ti {x k : Int32} {v : Int} (hk : k.toInt = v) (e : x.toInt = v) : x = k := Int32.toInt_inj.mp (e.trans hk.symm)
def aAbs (x : Int32) : Int32 := if 0 ≤ x then x else 0 - x
def iMax (a b : Int32) : Int32 := if a < b then b else a
def iMin (a b : Int32) : Int32 := if b < a then b else a
section MA
variable {G : mG} {M : mM} {d kc ks pc : Nat} {lv : List (Nat × Value)} {st : List Value} {w : mH} {Φ : mF}
theorem mW_mmaxA {idx : Nat} {x y : Int32} (hd : decode M.2.1 pc = .ok (.invokestatic idx, 3)) (w1 : Cond.methodLink M.1.cls idx Lib.Math.max.name ∈ mTs) (w2 : Cond.static Lib.Math.max.name ∈ mTs) (w3 : Cond.initialized "java/lang/Math" ∈ mTs) (w4 : Cond.code Lib.Math.max.name Lib.Math.max.code 2 (some .int) ∈ mTs) (hr : (st.map fun v => v.category).sum ≤ 8) (h0 : 1 ≤ d) (kk : mW G M d kc ks (pc + 3) lv (.int (iMax x y) :: st) w Φ) : mW G M d kc ks pc lv (.int y :: .int x :: st) w Φ := mW_mmax hd w1 w2 w3 w4 hr h0 kk
theorem mW_mminA {idx : Nat} {x y : Int32} (hd : decode M.2.1 pc = .ok (.invokestatic idx, 3)) (w1 : Cond.methodLink M.1.cls idx Lib.Math.min.name ∈ mTs) (w2 : Cond.static Lib.Math.min.name ∈ mTs) (w3 : Cond.initialized "java/lang/Math" ∈ mTs) (w4 : Cond.code Lib.Math.min.name Lib.Math.min.code 2 (some .int) ∈ mTs) (hr : (st.map fun v => v.category).sum ≤ 8) (h0 : 1 ≤ d) (kk : mW G M d kc ks (pc + 3) lv (.int (iMin x y) :: st) w Φ) : mW G M d kc ks pc lv (.int y :: .int x :: st) w Φ := mW_mmin hd w1 w2 w3 w4 hr h0 kk
theorem mW_mabsA {idx : Nat} {x : Int32} (hd : decode M.2.1 pc = .ok (.invokestatic idx, 3)) (w1 : Cond.methodLink M.1.cls idx Lib.Math.abs.name ∈ mTs) (w2 : Cond.static Lib.Math.abs.name ∈ mTs) (w3 : Cond.initialized "java/lang/Math" ∈ mTs) (w4 : Cond.code Lib.Math.abs.name Lib.Math.abs.code 1 (some .int) ∈ mTs) (hr : (st.map fun v => v.category).sum ≤ 8) (h0 : 1 ≤ d) (kk : mW G M d kc ks (pc + 3) lv (.int (aAbs x) :: st) w Φ) : mW G M d kc ks pc lv (.int x :: st) w Φ := mW_mabs hd w1 w2 w3 w4 hr h0 kk
end MA
