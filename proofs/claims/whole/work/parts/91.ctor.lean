/-! constructors: a new region of the heap from b on -/
def pc {α : Type} (b j : Nat) (f g : Nat → α) : Nat → α := fun q => if b ≤ q ∧ q < b + j then f (q - b) else g q
section PC
variable {α : Type} {b j o : Nat}
theorem pc_in {f g : Nat → α} (h : o < j) : pc b j f g (b + o) = f o := by
  unfold pc; rw [if_pos ⟨Nat.le_add_right _ _, by omega⟩, Nat.add_sub_cancel_left]
theorem pc_lo {f g : Nat → α} {q : Nat} (h : q < b) : pc b j f g q = g q := by unfold pc; rw [if_neg (by omega)]
theorem pc_new {f g : Nat → α} {x : α} : va_up (pc b j f g) (b + j) x = pc b (j + 1) (va_up f j x) g := by
  funext q
  by_cases h : q = b + j
  · subst h
    rw [va_up_self, pc_in (Nat.lt_succ_self j), va_up_self]
  · rw [va_up_ne _ _ h]
    unfold pc
    by_cases r : b ≤ q ∧ q < b + j
    · rw [if_pos r, if_pos ⟨r.1, by omega⟩, va_up_ne _ _ (by omega)]
    · rw [if_neg r, if_neg (by omega)]
theorem pc_upd {f g : Nat → α} {x : α} (h : o < j) : va_up (pc b j f g) (b + o) x = pc b j (va_up f o x) g := by
  funext q
  by_cases e : q = b + o
  · subst e
    rw [va_up_self, pc_in h, va_up_self]
  · rw [va_up_ne _ _ e]
    unfold pc
    by_cases r : b ≤ q ∧ q < b + j
    · rw [if_pos r, if_pos r, va_up_ne _ _ (by omega)]
    · rw [if_neg r, if_neg r]
theorem up2_upd {f : Nat → Nat → α} {a k : Nat} {v : α} : up2 f a k v = va_up f a (fun i => if i = k then v else f a i) := by
  funext q i
  by_cases e : q = a
  · subst e
    rw [va_up_self]
    simp [up2]
  · rw [va_up_ne _ _ e, up2_a _ _ _ e]
theorem pc_up2 {f g : Nat → Nat → α} {k : Nat} {v : α} (h : o < j) : up2 (pc b j f g) (b + o) k v = pc b j (up2 f o k v) g := by
  rw [up2_upd, up2_upd, pc_upd h, pc_in h]
theorem pc_one {g : Nat → α} {x : α} : va_up g b x = pc b 1 (fun _ => x) g := by
  funext q
  by_cases e : q = b
  · subst e
    rw [va_up_self]
    exact (pc_in (b := q) (j := 1) (o := 0) (f := fun _ => x) (g := g) (by decide)).symm
  · rw [va_up_ne _ _ e]
    unfold pc
    rw [if_neg (by omega)]
theorem pc_app {j' : Nat} {f f' g : Nat → α} : pc (b + j) j' f' (pc b j f g) = pc b (j + j') (fun o => if o < j then f o else f' (o - j)) g := by
  funext q
  unfold pc
  by_cases r : b + j ≤ q ∧ q < b + j + j'
  · rw [if_pos r, if_pos (by omega)]
    show f' (q - (b + j)) = if q - b < j then f (q - b) else f' (q - b - j)
    rw [if_neg (by omega), Nat.sub_sub]
  · rw [if_neg r]
    by_cases r2 : b ≤ q ∧ q < b + j
    · rw [if_pos r2, if_pos (by omega)]
      show f (q - b) = if q - b < j then f (q - b) else f' (q - b - j)
      rw [if_pos (by omega)]
    · rw [if_neg r2, if_neg (by omega)]
end PC
theorem mH_ext {w w' : mH} (h1 : hN w = hN w') (h2 : hk w = hk w') (h3 : hfi w = hfi w') (h4 : hfl w = hfl w') (h5 : hfr w = hfr w') (h6 : hai w = hai w') (h7 : hal w = hal w') (h8 : har w = har w') : w = w' :=
  Prod.ext h1 (Prod.ext h2 (Prod.ext h3 (Prod.ext h4 (Prod.ext h5 (Prod.ext h6 (Prod.ext h7 h8))))))
/-- a region: how many objects, kinds, ints, references, rows of ints, rows of references (counted from the region's start) -/
abbrev mQ : Type := Nat × (Nat → Nat × Nat) × (Nat → Nat → Int32) × (Nat → Nat → Option Nat) × (Nat → Nat → Int32) × (Nat → Nat → Option Nat)
def shR (b : Nat) (R : Nat → Nat → Option Nat) : Nat → Nat → Option Nat := fun o k => (R o k).map (fun t => b + t)
def wR (b : Nat) (Q : mQ) (w : mH) : mH := (b + Q.1, pc b Q.1 Q.2.1 (hk w), pc b Q.1 Q.2.2.1 (hfi w), pc b Q.1 (fun _ _ => 0) (hfl w), pc b Q.1 (shR b Q.2.2.2.1) (hfr w), pc b Q.1 Q.2.2.2.2.1 (hai w), pc b Q.1 (fun _ _ => 0) (hal w), pc b Q.1 (shR b Q.2.2.2.2.2) (har w))
def q0 (c : Nat) : mQ := (1, fun _ => (c, 0), fun _ _ => 0, fun _ _ => none, fun _ _ => 0, fun _ _ => none)
def qVn (Q : mQ) (kd : Nat × Nat) : mQ := (Q.1 + 1, va_up Q.2.1 Q.1 kd, va_up Q.2.2.1 Q.1 (fun _ => 0), va_up Q.2.2.2.1 Q.1 (fun _ => none), va_up Q.2.2.2.2.1 Q.1 (fun _ => 0), va_up Q.2.2.2.2.2 Q.1 (fun _ => none))
def qVi (Q : mQ) (o k : Nat) (v : Int32) : mQ := (Q.1, Q.2.1, up2 Q.2.2.1 o k v, Q.2.2.2.1, Q.2.2.2.2.1, Q.2.2.2.2.2)
def qVr (Q : mQ) (o k t : Nat) : mQ := (Q.1, Q.2.1, Q.2.2.1, up2 Q.2.2.2.1 o k (some t), Q.2.2.2.2.1, Q.2.2.2.2.2)
def qVa (Q : mQ) (o k : Nat) (v : Int32) : mQ := (Q.1, Q.2.1, Q.2.2.1, Q.2.2.2.1, up2 Q.2.2.2.2.1 o k v, Q.2.2.2.2.2)
def qVx (Q : mQ) (o : Nat) (g : Nat → Int32) : mQ := (Q.1, Q.2.1, Q.2.2.1, Q.2.2.2.1, va_up Q.2.2.2.2.1 o g, Q.2.2.2.2.2)
def qVs (Q : mQ) (o k t : Nat) : mQ := (Q.1, Q.2.1, Q.2.2.1, Q.2.2.2.1, Q.2.2.2.2.1, up2 Q.2.2.2.2.2 o k (some t))
def qsh (j : Nat) (R R' : Nat → Nat → Option Nat) : Nat → Nat → Option Nat := fun o k => if o < j then R o k else (R' (o - j) k).map (fun t => j + t)
def qVp (Q Q' : mQ) : mQ := (Q.1 + Q'.1, fun o => if o < Q.1 then Q.2.1 o else Q'.2.1 (o - Q.1), fun o => if o < Q.1 then Q.2.2.1 o else Q'.2.2.1 (o - Q.1), qsh Q.1 Q.2.2.2.1 Q'.2.2.2.1, fun o => if o < Q.1 then Q.2.2.2.2.1 o else Q'.2.2.2.2.1 (o - Q.1), qsh Q.1 Q.2.2.2.2.2 Q'.2.2.2.2.2)
theorem sh_new {b j : Nat} {R : Nat → Nat → Option Nat} : va_up (shR b R) j (fun _ => none) = shR b (va_up R j (fun _ => none)) := by
  funext o k
  by_cases e : o = j
  · subst e; unfold shR; rw [va_up_self, va_up_self]; rfl
  · unfold shR; rw [va_up_ne _ _ e, va_up_ne _ _ e]
theorem sh_up2 {b o k t : Nat} {R : Nat → Nat → Option Nat} : up2 (shR b R) o k (some (b + t)) = shR b (up2 R o k (some t)) := by
  funext x y
  unfold shR up2
  by_cases e : x = o ∧ y = k
  · rw [if_pos e, if_pos e]; rfl
  · rw [if_neg e, if_neg e]
theorem z_new {α : Type} {j : Nat} {x : α} : va_up (fun _ : Nat => x) j x = fun _ => x := by
  funext o
  by_cases e : o = j
  · subst e; rw [va_up_self]
  · rw [va_up_ne _ _ e]
theorem sh_app {b j : Nat} {R R' : Nat → Nat → Option Nat} : (fun o => if o < j then shR b R o else shR (b + j) R' (o - j)) = shR b (qsh j R R') := by
  funext o k
  show (if o < j then shR b R o else shR (b + j) R' (o - j)) k = ((if o < j then R o k else (R' (o - j) k).map (fun t => j + t)) : Option Nat).map (fun t => b + t)
  by_cases e : o < j
  · rw [if_pos e, if_pos e]; rfl
  · rw [if_neg e, if_neg e]
    show (R' (o - j) k).map (fun t => b + j + t) = _
    cases R' (o - j) k with
    | none => rfl
    | some t => show some (b + j + t) = some (b + (j + t)); rw [Nat.add_assoc]
section WR
variable {b o k t : Nat} {v : Int32} {Q Q' : mQ} {w : mH} {kd : Nat × Nat}
theorem R_N : snew (wR b Q w) kd = wR b (qVn Q kd) w := by
  refine mH_ext rfl pc_new pc_new ?_ ?_ pc_new ?_ ?_
  · show va_up (pc b Q.1 (fun _ _ => 0) (hfl w)) (b + Q.1) (fun _ => 0) = pc b (Q.1 + 1) (fun _ _ => 0) (hfl w)
    rw [pc_new, z_new]
  · show va_up (pc b Q.1 (shR b Q.2.2.2.1) (hfr w)) (b + Q.1) (fun _ => none) = pc b (Q.1 + 1) (shR b (va_up Q.2.2.2.1 Q.1 (fun _ => none))) (hfr w)
    rw [pc_new, sh_new]
  · show va_up (pc b Q.1 (fun _ _ => 0) (hal w)) (b + Q.1) (fun _ => 0) = pc b (Q.1 + 1) (fun _ _ => 0) (hal w)
    rw [pc_new, z_new]
  · show va_up (pc b Q.1 (shR b Q.2.2.2.2.2) (har w)) (b + Q.1) (fun _ => none) = pc b (Q.1 + 1) (shR b (va_up Q.2.2.2.2.2 Q.1 (fun _ => none))) (har w)
    rw [pc_new, sh_new]
theorem R_0 {c : Nat} : snew w (c, 0) = wR (hN w) (q0 c) w := mH_ext rfl pc_one pc_one pc_one pc_one pc_one pc_one pc_one
theorem R_I (h : o < Q.1) : sfi (wR b Q w) (b + o) k v = wR b (qVi Q o k v) w := mH_ext rfl rfl (pc_up2 h) rfl rfl rfl rfl rfl
theorem R_L (h : o < Q.1) : sfl (wR b Q w) (b + o) k 0 = wR b Q w := by
  refine mH_ext rfl rfl rfl ?_ rfl rfl rfl rfl
  show up2 (pc b Q.1 (fun _ _ => 0) (hfl w)) (b + o) k 0 = pc b Q.1 (fun _ _ => 0) (hfl w)
  rw [pc_up2 h, show up2 (fun _ _ : Nat => (0 : Int64)) o k 0 = fun _ _ => 0 from by funext x y; unfold up2; split <;> rfl]
theorem R_R (h : o < Q.1) : sfr (wR b Q w) (b + o) k (some (b + t)) = wR b (qVr Q o k t) w := by
  refine mH_ext rfl rfl rfl rfl ?_ rfl rfl rfl
  show up2 (pc b Q.1 (shR b Q.2.2.2.1) (hfr w)) (b + o) k (some (b + t)) = pc b Q.1 (shR b (up2 Q.2.2.2.1 o k (some t))) (hfr w)
  rw [pc_up2 h, sh_up2]
theorem R_A (h : o < Q.1) : sai (wR b Q w) (b + o) k v = wR b (qVa Q o k v) w := mH_ext rfl rfl rfl rfl rfl (pc_up2 h) rfl rfl
theorem R_X {g : Nat → Int32} (h : o < Q.1) : sax (wR b Q w) (b + o) g = wR b (qVx Q o g) w := mH_ext rfl rfl rfl rfl rfl (pc_upd h) rfl rfl
theorem R_S (h : o < Q.1) : sar (wR b Q w) (b + o) k (some (b + t)) = wR b (qVs Q o k t) w := by
  refine mH_ext rfl rfl rfl rfl rfl rfl rfl ?_
  show up2 (pc b Q.1 (shR b Q.2.2.2.2.2) (har w)) (b + o) k (some (b + t)) = pc b Q.1 (shR b (up2 Q.2.2.2.2.2 o k (some t))) (har w)
  rw [pc_up2 h, sh_up2]
theorem z_app {j : Nat} : (fun o : Nat => if o < j then (fun _ : Nat => (0 : Int64)) else (fun _ : Nat => (0 : Int64))) = fun _ _ => 0 := by
  funext o
  split <;> rfl
theorem R_P : wR (b + Q.1) Q' (wR b Q w) = wR b (qVp Q Q') w := by
  refine mH_ext (Nat.add_assoc _ _ _) pc_app pc_app ?_ ?_ pc_app ?_ ?_
  · show pc (b + Q.1) Q'.1 (fun _ _ => 0) (pc b Q.1 (fun _ _ => 0) (hfl w)) = pc b (Q.1 + Q'.1) (fun _ _ => 0) (hfl w)
    rw [pc_app, z_app]
  · show pc (b + Q.1) Q'.1 (shR (b + Q.1) Q'.2.2.2.1) (pc b Q.1 (shR b Q.2.2.2.1) (hfr w)) = pc b (Q.1 + Q'.1) (shR b (qsh Q.1 Q.2.2.2.1 Q'.2.2.2.1)) (hfr w)
    rw [pc_app, sh_app]
  · show pc (b + Q.1) Q'.1 (fun _ _ => 0) (pc b Q.1 (fun _ _ => 0) (hal w)) = pc b (Q.1 + Q'.1) (fun _ _ => 0) (hal w)
    rw [pc_app, z_app]
  · show pc (b + Q.1) Q'.1 (shR (b + Q.1) Q'.2.2.2.2.2) (pc b Q.1 (shR b Q.2.2.2.2.2) (har w)) = pc b (Q.1 + Q'.1) (shR b (qsh Q.1 Q.2.2.2.2.2 Q'.2.2.2.2.2)) (har w)
    rw [pc_app, sh_app]
theorem R_C {g : Nat → Int32} {j : Nat} (hj : j = Q.1) : sax (snew (wR b Q w) kd) (b + j) g = wR b (qVx (qVn Q kd) j g) w := by rw [R_N]; exact R_X (by rw [hj]; exact Nat.lt_succ_self _)
theorem R_k {x : Nat × Nat} (h : o < Q.1) (e : Q.2.1 o = x) : hk (wR b Q w) (b + o) = x := (pc_in h).trans e
theorem R_r (h : o < Q.1) (e : Q.2.2.2.1 o k = some t) : hfr (wR b Q w) (b + o) k = some (b + t) := (congrFun (pc_in h) k).trans (by show (Q.2.2.2.1 o k).map _ = _; rw [e]; rfl)
theorem R_i (h : o < Q.1) (e : Q.2.2.1 o k = v) : hfi (wR b Q w) (b + o) k = v := (congrFun (pc_in h) k).trans e
theorem R_a (h : o < Q.1) (e : Q.2.2.2.2.1 o k = v) : hai (wR b Q w) (b + o) k = v := (congrFun (pc_in h) k).trans e
theorem R_s (h : o < Q.1) (e : Q.2.2.2.2.2 o k = some t) : har (wR b Q w) (b + o) k = some (b + t) := (congrFun (pc_in h) k).trans (by show (Q.2.2.2.2.2 o k).map _ = _; rw [e]; rfl)
theorem mW_ws {G : mG} {M : mM} {d kc ks pc : Nat} {lv : List (Nat × Value)} {st st2 : List Value} {w w2 : mH} {Φ : mF} (hs : st = st2) (hw : w = w2) (k : mW G M d kc ks pc lv st2 w2 Φ) : mW G M d kc ks pc lv st w Φ := by rw [hs, hw]; exact k
end WR
