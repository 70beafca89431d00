/-! the start: what the Statement gives is mInv -/
abbrev mGv : Jvm.Cond := Jvm.Cond.and given_1 narrow_1
theorem m_len {tm : Term} {args : Array Value} {s : State} {N : Nat} (h : (Term.length tm).eval args s none [] s = some (.int (Int32.ofNat N))) (hN : N < 2 ^ 31) : ∃ a cell, tm.eval args s none [] s = some (.ref a) ∧ s.arrayAt? a = some cell ∧ cell.slots.size = N := by
  simp only [Term.eval, Option.bind_eq_bind] at h
  cases ht : tm.eval args s none [] s with
  | none => simp [ht] at h
  | some x =>
    cases x <;> simp [ht] at h
    case ref a =>
      obtain ⟨cell, hcell, h⟩ := Option.bind_eq_some_iff.mp h
      by_cases hn : cell.slots.size < 2147483648
      · rw [if_pos hn] at h
        refine ⟨a, cell, rfl, hcell, ?_⟩
        have e : nI cell.slots.size = nI N := Value.int.inj (Option.some.inj h)
        exact (nI_eq (by omega) hN).mp e
      · rw [if_neg hn] at h; cases h
theorem m_sta {args : Array Value} {s : State} {A : Nat → Prop} {C n d : String} {ty : FieldType} {vs : List Int32} (hl : (Cond.laysStatic C n d).before args s = true) (hini : (Cond.initialized C).before args s = true) (harr : (Cond.arrayOf (.static C n d) ty).before args s = true) (hlen : (Cond.eq (.length (.static C n d)) (.int (Int32.ofNat vs.length))).before args s = true) (hel : ∀ j, j < vs.length → (Cond.eq (.elem (.static C n d) (.int (Int32.ofNat j))) (.int (vs.getD j 0))).before args s = true) (hN : vs.length < 2 ^ 31) (hA : ∀ a : Nat, a < s.heap.size → ¬ A a) : ∃ t : Nat, (Term.static C n d).eval args s none [] s = some (.ref t) ∧ va_Z C n d (.ref t) A s s.heap ∧ va_T ty t vs.length (fun j => .int (vs.getD j 0)) A s s.heap := by
  obtain ⟨t, ht, hT⟩ := va_Tof hN harr (va_eqt hlen) (fun j hj => va_eqt (hel j hj)) hA
  exact ⟨t, ht, va_Zref hl hini ht hA, hT⟩

def R_law : String := "LineFollowerBenchLaw"
def lw_P (b : Addr) (xs : List Int32) (args : Array Value) (s : State) : Prop := args = #[.ref b] ∧ s.IntsAt b xs ∧ xs.length ≤ 2560 ∧ (Jvm.Cond.and given_1 narrow_1).before args s = true
/-- what a walk over the start with the record d0 says of its end, said of the start itself -/
theorem lw_closed {s t : State} {o : Outcome} {d0 : Drawn} {L : List Loc} {k n : Nat} (hd0 : s.drawn.sameBut d0 lw_cs) (hv : ∃ v, o = .returned v) (hW : (s.setDrawn d0).WarmedH t.vm) (hs : (s.setDrawn d0).sameButNew ({ t with vm := s.vm } : State) L k n) : State.butDraws s t lw_cs (fun t1 => Framed s o t1 L k n) := by
  have h2 : t.drawn = d0 := congrArg State.drawn hs.1
  refine ⟨⟨hv, hW, State.sameButNew.setDrawn hs s.drawn⟩, ?_, by decide⟩
  rw [h2]
  exact hd0
def lw_Q (_ : Array Value) (s : State) (o : Outcome) (t : State) : Prop := o = .returned (some (.int 1)) ∧ State.butDraws s t lw_cs (fun t1 => Framed s o t1 [] 601024 7293034)
def lw_Z (below : List Frame) (a : Array Value) (s : State) : State → Prop := fun t => ∃ o, t.status = .running ∧ Ended t below o ∧ lw_Q a s o t
/-- the law's own end, with 1 on the stack, nothing written that was there before, its room as the claim has it; d0: the record of draws at this point (at the entry s.drawn: begin with 'refine W.base ?_' and 'have hd0 := Drawn.sameBut.refl s.drawn lw_cs') -/
theorem lw_ret {p : Program} {l : Launch} {e : Env} {s : State} {m : MethodId} {below : List Frame} {meth : Method} {c : Code} {b : Nat} {d0 : Drawn} (hd0 : s.drawn.sameBut d0 lw_cs) (hx : p.tables.exec = Jvm.exec) (hb : c.code = code) (hr : meth.sig.returnType = ret) (hlocks : meth.locks = false) {pc : Nat} {H : Heap} {ls : Array Slot} (hdg : decode code pc = .ok (.ireturn, 1)) : W p l e room_1 (s.setDrawn d0) m #[Value.ref b] below meth c H [] 601024 7293034 (lw_Z below #[Value.ref b] s) (F0 m pc ls [.int 1]) := by
  intro T hT X
  obtain ⟨fs, hret, hrun, hended, hW, hframe⟩ := X.leave (v := some (.int 1)) (hlocks := hlocks) (fun h => by rw [hr] at h; cases h)
  have hmeth' : T.vm.method? m = some meth := X.method'
  refine ⟨T.setFrames fs, ?_, .returned (some (.int 1)), hrun, hended, rfl, lw_closed hd0 ⟨_, rfl⟩ hW hframe⟩
  jvm_step X.here [X.here.top, hx, hb, hdg, hmeth', hr, ret, narrow_b1]
  (try refine ⟨rfl, ?_⟩); (try refine ⟨rfl, ?_⟩)
  first | (intro acts; rw [hret _ acts rfl rfl rfl]) | rw [hret _ _ rfl rfl rfl]
  exact Steps.refl _
/-- what holds at the law's entry: the machine, the code, the tables' words (any of lw_tbl by 'hts w (by decide +kernel)'), the script of L ints xs at the cell b, what the Statement gives of the start (any of its parts by flat_of_before) -/
def lw_At (p : Program) (s : State) (m : MethodId) (meth : Method) (c : Code) (b L : Nat) (xs : Nat → Int32) : Prop :=
  p.tables.exec = Jvm.exec ∧ c.code = code ∧ meth.sig.returnType = ret ∧ c.maxLocals = 8 ∧ s.vm.findClass R_law = some m.cls ∧ (∀ w ∈ lw_tbl, w.before #[Value.ref b] s = true) ∧ va_X b L xs s s.heap ∧ b < s.heap.size ∧ meth.locks = false ∧ (Jvm.Cond.and given_1 narrow_1).before #[Value.ref b] s = true
theorem u106 : (Cond.instantiable "LineFollowerBench" 12 : Cond) ∈ mTs := mTs_in 106 (by decide +kernel) (by decide +kernel)
theorem u1554 : (Cond.instantiable "LineFollowerBenchModel" 36 : Cond) ∈ mTs := mTs_in 1554 (by decide +kernel) (by decide +kernel)
theorem v235 : (Cond.arrayOver (.object "LineFollowerBench$Setup") : Cond) ∈ lw_tbl := List.mem_of_getElem? (i := 235) (by decide +kernel)
theorem v120 : (Cond.laysStatic "LineFollowerBench" "SETTING_AT_FIRST" "[I" : Cond) ∈ lw_tbl := List.mem_of_getElem? (i := 120) (by decide +kernel)
theorem v788 : (Cond.laysStatic "LineFollowerBench" "SETTING_LEAST" "[I" : Cond) ∈ lw_tbl := List.mem_of_getElem? (i := 788) (by decide +kernel)
theorem v790 : (Cond.laysStatic "LineFollowerBench" "SETTING_MOST" "[I" : Cond) ∈ lw_tbl := List.mem_of_getElem? (i := 790) (by decide +kernel)
theorem v1175 : (Cond.laysStatic "java/lang/Integer" "DigitTens" "[B" : Cond) ∈ lw_tbl := List.mem_of_getElem? (i := 1175) (by decide +kernel)
theorem v1173 : (Cond.laysStatic "java/lang/Integer" "DigitOnes" "[B" : Cond) ∈ lw_tbl := List.mem_of_getElem? (i := 1173) (by decide +kernel)
theorem v289 : (Cond.laysStatic "java/lang/String" "COMPACT_STRINGS" "Z" : Cond) ∈ lw_tbl := List.mem_of_getElem? (i := 289) (by decide +kernel)
theorem v1103 : (Cond.laysStatic "jdk/internal/util/Preconditions" "SIOOBE_FORMATTER" "Ljava/util/function/BiFunction;" : Cond) ∈ lw_tbl := List.mem_of_getElem? (i := 1103) (by decide +kernel)
theorem v744 : (Cond.laysStatic "java/lang/Throwable" "UNASSIGNED_STACK" "[Ljava/lang/StackTraceElement;" : Cond) ∈ lw_tbl := List.mem_of_getElem? (i := 744) (by decide +kernel)
theorem u86 : (Cond.initialized "java/lang/Throwable" : Cond) ∈ mTs := mTs_in 86 (by decide +kernel) (by decide +kernel)
theorem v746 : (Cond.laysStatic "java/lang/Throwable" "SUPPRESSED_SENTINEL" "Ljava/util/List;" : Cond) ∈ lw_tbl := List.mem_of_getElem? (i := 746) (by decide +kernel)
theorem m_kn {args : Array Value} {s : State} (hts : ∀ w ∈ mTs, w.before args s = true) : ∀ c : Nat, ∃ x : ClassId × (Nat → Nat), ∀ q : vw_C, mCl[c]? = some q → u_Kn s q.1 q.2.1 q.2.2 x.1 x.2
  | 0 => by
    obtain ⟨a, b, h⟩ := u_known (C := RX0) (T := TX0) (N := 4) (n := 4) hts in_X0 (hts _ u421)
    exact ⟨(a, b), fun q hq => by have e : ((RX0, TX0, 4) : vw_C) = q := Option.some.inj hq; subst e; exact h⟩
  | 1 => by
    obtain ⟨a, b, h⟩ := u_known (C := RX1) (T := TX1) (N := 3) (n := 3) hts in_X1 (hts _ u129)
    exact ⟨(a, b), fun q hq => by have e : ((RX1, TX1, 3) : vw_C) = q := Option.some.inj hq; subst e; exact h⟩
  | 2 => by
    obtain ⟨a, b, h⟩ := u_known (C := RX2) (T := TX2) (N := 3) (n := 3) hts in_X2 (hts _ u229)
    exact ⟨(a, b), fun q hq => by have e : ((RX2, TX2, 3) : vw_C) = q := Option.some.inj hq; subst e; exact h⟩
  | 3 => by
    obtain ⟨a, b, h⟩ := u_known (C := RX3) (T := TX3) (N := 5) (n := 5) hts in_X3 (hts _ u114)
    exact ⟨(a, b), fun q hq => by have e : ((RX3, TX3, 5) : vw_C) = q := Option.some.inj hq; subst e; exact h⟩
  | 4 => by
    obtain ⟨a, b, h⟩ := u_known (C := RX4) (T := TX4) (N := 11) (n := 11) hts in_X4 (hts _ u313)
    exact ⟨(a, b), fun q hq => by have e : ((RX4, TX4, 11) : vw_C) = q := Option.some.inj hq; subst e; exact h⟩
  | 5 => by
    obtain ⟨a, b, h⟩ := u_known (C := RX5) (T := TX5) (N := 3) (n := 3) hts in_X5 (hts _ u150)
    exact ⟨(a, b), fun q hq => by have e : ((RX5, TX5, 3) : vw_C) = q := Option.some.inj hq; subst e; exact h⟩
  | 6 => by
    obtain ⟨a, b, h⟩ := u_known (C := RX6) (T := TX6) (N := 7) (n := 7) hts in_X6 (hts _ u359)
    exact ⟨(a, b), fun q hq => by have e : ((RX6, TX6, 7) : vw_C) = q := Option.some.inj hq; subst e; exact h⟩
  | 7 => by
    obtain ⟨a, b, h⟩ := u_known (C := RX7) (T := TX7) (N := 8) (n := 8) hts in_X7 (hts _ u169)
    exact ⟨(a, b), fun q hq => by have e : ((RX7, TX7, 8) : vw_C) = q := Option.some.inj hq; subst e; exact h⟩
  | 8 => by
    obtain ⟨a, b, h⟩ := u_known (C := RX8) (T := TX8) (N := 6) (n := 6) hts in_X8 (hts _ u249)
    exact ⟨(a, b), fun q hq => by have e : ((RX8, TX8, 6) : vw_C) = q := Option.some.inj hq; subst e; exact h⟩
  | 9 => by
    obtain ⟨a, b, h⟩ := u_known (C := RX9) (T := TX9) (N := 4) (n := 4) hts in_X9 (hts _ u397)
    exact ⟨(a, b), fun q hq => by have e : ((RX9, TX9, 4) : vw_C) = q := Option.some.inj hq; subst e; exact h⟩
  | 10 => by
    obtain ⟨a, b, h⟩ := u_known (C := RX10) (T := TX10) (N := 12) (n := 12) hts in_X10 (hts _ u106)
    exact ⟨(a, b), fun q hq => by have e : ((RX10, TX10, 12) : vw_C) = q := Option.some.inj hq; subst e; exact h⟩
  | 11 => by
    obtain ⟨a, b, h⟩ := u_known (C := RX11) (T := TX11) (N := 36) (n := 36) hts in_X11 (hts _ u1554)
    exact ⟨(a, b), fun q hq => by have e : ((RX11, TX11, 36) : vw_C) = q := Option.some.inj hq; subst e; exact h⟩
  | 12 => by
    obtain ⟨a, b, h⟩ := u_known (C := RJ4) (T := TJ4) (N := 4) (n := 4) hts in_J4 (hts _ u280)
    exact ⟨(a, b), fun q hq => by have e : ((RJ4, TJ4, 4) : vw_C) = q := Option.some.inj hq; subst e; exact h⟩
  | n + 13 => ⟨(0, fun _ => 0), fun q hq => by simp [mCl] at hq⟩
abbrev mTyL : List FieldType := [.int, .long, .char, .byte, .boolean, .object "LineFollowerBench$Setup"]
theorem m_ta {args : Array Value} {s : State} (hlw : ∀ w ∈ lw_tbl, w.before args s = true) (hts : ∀ w ∈ mTs, w.before args s = true) : ∀ k : Nat, ∃ cA : ClassId, ∀ ty, mTyL[k]? = some ty → ArrOfT s cA ty ∧ va_RA s cA ty
  | 0 => by
    obtain ⟨c, k, comp, h1, h2, h3⟩ := Cond.arrayClass_spec (hts _ u148)
    exact ⟨c, fun ty hty => by have e : FieldType.int = ty := Option.some.inj hty; subst e; exact ⟨fun N z => ⟨(fun k h => by cases h), k, h2, comp, h3⟩, h1⟩⟩
  | 1 => by
    obtain ⟨c, k, comp, h1, h2, h3⟩ := Cond.arrayClass_spec (hts _ u419)
    exact ⟨c, fun ty hty => by have e : FieldType.long = ty := Option.some.inj hty; subst e; exact ⟨fun N z => ⟨(fun k h => by cases h), k, h2, comp, h3⟩, h1⟩⟩
  | 2 => by
    obtain ⟨c, k, comp, h1, h2, h3⟩ := Cond.arrayClass_spec (hts _ u278)
    exact ⟨c, fun ty hty => by have e : FieldType.char = ty := Option.some.inj hty; subst e; exact ⟨fun N z => ⟨(fun k h => by cases h), k, h2, comp, h3⟩, h1⟩⟩
  | 3 => by
    obtain ⟨c, k, comp, h1, h2, h3⟩ := Cond.arrayClass_spec (hts _ u311)
    exact ⟨c, fun ty hty => by have e : FieldType.byte = ty := Option.some.inj hty; subst e; exact ⟨fun N z => ⟨(fun k h => by cases h), k, h2, comp, h3⟩, h1⟩⟩
  | 4 => by
    obtain ⟨c, k, comp, h1, h2, h3⟩ := Cond.arrayClass_spec (hts _ u1669)
    exact ⟨c, fun ty hty => by have e : FieldType.boolean = ty := Option.some.inj hty; subst e; exact ⟨fun N z => ⟨(fun k h => by cases h), k, h2, comp, h3⟩, h1⟩⟩
  | 5 => by
    obtain ⟨comp, c, k, h1, -, h2, h3, h4⟩ := Cond.arrayOver_spec (hlw _ v235)
    exact ⟨c, fun ty hty => by have e : FieldType.object "LineFollowerBench$Setup" = ty := Option.some.inj hty; subst e; exact ⟨fun N z => ⟨(fun k h => by cases h), k, h2, comp, h3⟩, k, comp, h2, h3, h1, h4⟩⟩
  | n + 6 => ⟨0, fun q hq => by simp [mTyL] at hq⟩
theorem m_el0 : ∀ j, j < 15 → (flatC mGv)[7 + j]? = some (Cond.eq (.elem (.static "LineFollowerBench" "SETTING_AT_FIRST" "[I") (.int (Int32.ofNat j))) (.int ((mSv 0).getD j 0))) := by decide +kernel
theorem m_sl0 : (mSv 0).length = 15 := by decide +kernel
theorem m_st0 {args : Array Value} {s : State} {A : Nat → Prop} (hlw : ∀ w ∈ lw_tbl, w.before args s = true) (hts : ∀ w ∈ mTs, w.before args s = true) (hgv : mGv.before args s = true) (hA : ∀ a : Nat, a < s.heap.size → ¬ A a) : ∃ t : Nat, (Term.static "LineFollowerBench" "SETTING_AT_FIRST" "[I").eval args s none [] s = some (.ref t) ∧ va_Z "LineFollowerBench" "SETTING_AT_FIRST" "[I" (.ref t) A s s.heap ∧ va_T .int t (mSv 0).length (fun j => .int ((mSv 0).getD j 0)) A s s.heap :=
  m_sta (hlw _ v120) (hts _ u70) (flat_of_before _ hgv _ (List.mem_of_getElem? (i := 5) (by decide +kernel))) (flat_of_before _ hgv _ (List.mem_of_getElem? (i := 6) (by decide +kernel))) (fun j hj => flat_of_before _ hgv _ (List.mem_of_getElem? (m_el0 j (by rw [m_sl0] at hj; exact hj)))) (by rw [m_sl0]; decide) hA
theorem m_el1 : ∀ j, j < 15 → (flatC mGv)[28 + j]? = some (Cond.eq (.elem (.static "LineFollowerBench" "SETTING_LEAST" "[I") (.int (Int32.ofNat j))) (.int ((mSv 1).getD j 0))) := by decide +kernel
theorem m_sl1 : (mSv 1).length = 15 := by decide +kernel
theorem m_st1 {args : Array Value} {s : State} {A : Nat → Prop} (hlw : ∀ w ∈ lw_tbl, w.before args s = true) (hts : ∀ w ∈ mTs, w.before args s = true) (hgv : mGv.before args s = true) (hA : ∀ a : Nat, a < s.heap.size → ¬ A a) : ∃ t : Nat, (Term.static "LineFollowerBench" "SETTING_LEAST" "[I").eval args s none [] s = some (.ref t) ∧ va_Z "LineFollowerBench" "SETTING_LEAST" "[I" (.ref t) A s s.heap ∧ va_T .int t (mSv 1).length (fun j => .int ((mSv 1).getD j 0)) A s s.heap :=
  m_sta (hlw _ v788) (hts _ u70) (flat_of_before _ hgv _ (List.mem_of_getElem? (i := 26) (by decide +kernel))) (flat_of_before _ hgv _ (List.mem_of_getElem? (i := 27) (by decide +kernel))) (fun j hj => flat_of_before _ hgv _ (List.mem_of_getElem? (m_el1 j (by rw [m_sl1] at hj; exact hj)))) (by rw [m_sl1]; decide) hA
theorem m_el2 : ∀ j, j < 15 → (flatC mGv)[46 + j]? = some (Cond.eq (.elem (.static "LineFollowerBench" "SETTING_MOST" "[I") (.int (Int32.ofNat j))) (.int ((mSv 2).getD j 0))) := by decide +kernel
theorem m_sl2 : (mSv 2).length = 15 := by decide +kernel
theorem m_st2 {args : Array Value} {s : State} {A : Nat → Prop} (hlw : ∀ w ∈ lw_tbl, w.before args s = true) (hts : ∀ w ∈ mTs, w.before args s = true) (hgv : mGv.before args s = true) (hA : ∀ a : Nat, a < s.heap.size → ¬ A a) : ∃ t : Nat, (Term.static "LineFollowerBench" "SETTING_MOST" "[I").eval args s none [] s = some (.ref t) ∧ va_Z "LineFollowerBench" "SETTING_MOST" "[I" (.ref t) A s s.heap ∧ va_T .int t (mSv 2).length (fun j => .int ((mSv 2).getD j 0)) A s s.heap :=
  m_sta (hlw _ v790) (hts _ u70) (flat_of_before _ hgv _ (List.mem_of_getElem? (i := 44) (by decide +kernel))) (flat_of_before _ hgv _ (List.mem_of_getElem? (i := 45) (by decide +kernel))) (fun j hj => flat_of_before _ hgv _ (List.mem_of_getElem? (m_el2 j (by rw [m_sl2] at hj; exact hj)))) (by rw [m_sl2]; decide) hA
theorem m_el3 : ∀ j, j < 100 → (flatC mGv)[171 + j]? = some (Cond.eq (.elem (.static "java/lang/Integer" "DigitTens" "[B") (.int (Int32.ofNat j))) (.int ((mSv 3).getD j 0))) := by decide +kernel
theorem m_sl3 : (mSv 3).length = 100 := by decide +kernel
theorem m_st3 {args : Array Value} {s : State} {A : Nat → Prop} (hlw : ∀ w ∈ lw_tbl, w.before args s = true) (hts : ∀ w ∈ mTs, w.before args s = true) (hgv : mGv.before args s = true) (hA : ∀ a : Nat, a < s.heap.size → ¬ A a) : ∃ t : Nat, (Term.static "java/lang/Integer" "DigitTens" "[B").eval args s none [] s = some (.ref t) ∧ va_Z "java/lang/Integer" "DigitTens" "[B" (.ref t) A s s.heap ∧ va_T .byte t (mSv 3).length (fun j => .int ((mSv 3).getD j 0)) A s s.heap :=
  m_sta (hlw _ v1175) (hts _ u101) (flat_of_before _ hgv _ (List.mem_of_getElem? (i := 169) (by decide +kernel))) (flat_of_before _ hgv _ (List.mem_of_getElem? (i := 170) (by decide +kernel))) (fun j hj => flat_of_before _ hgv _ (List.mem_of_getElem? (m_el3 j (by rw [m_sl3] at hj; exact hj)))) (by rw [m_sl3]; decide) hA
theorem m_el4 : ∀ j, j < 100 → (flatC mGv)[68 + j]? = some (Cond.eq (.elem (.static "java/lang/Integer" "DigitOnes" "[B") (.int (Int32.ofNat j))) (.int ((mSv 4).getD j 0))) := by decide +kernel
theorem m_sl4 : (mSv 4).length = 100 := by decide +kernel
theorem m_st4 {args : Array Value} {s : State} {A : Nat → Prop} (hlw : ∀ w ∈ lw_tbl, w.before args s = true) (hts : ∀ w ∈ mTs, w.before args s = true) (hgv : mGv.before args s = true) (hA : ∀ a : Nat, a < s.heap.size → ¬ A a) : ∃ t : Nat, (Term.static "java/lang/Integer" "DigitOnes" "[B").eval args s none [] s = some (.ref t) ∧ va_Z "java/lang/Integer" "DigitOnes" "[B" (.ref t) A s s.heap ∧ va_T .byte t (mSv 4).length (fun j => .int ((mSv 4).getD j 0)) A s s.heap :=
  m_sta (hlw _ v1173) (hts _ u101) (flat_of_before _ hgv _ (List.mem_of_getElem? (i := 66) (by decide +kernel))) (flat_of_before _ hgv _ (List.mem_of_getElem? (i := 67) (by decide +kernel))) (fun j hj => flat_of_before _ hgv _ (List.mem_of_getElem? (m_el4 j (by rw [m_sl4] at hj; exact hj)))) (by rw [m_sl4]; decide) hA
theorem m_strs {args : Array Value} {s : State} (hlw : ∀ w ∈ lw_tbl, w.before args s = true) (hgv : mGv.before args s = true) : ∀ q ∈ mStrs, ∃ sa, vk_R q.1 q.2.1 q.2.2 sa s := by
  have key : ∀ q ∈ mStrs, Cond.stringRef q.1 q.2.1 q.2.2 ∈ lw_tbl ∧ Cond.exactly (.string q.1 q.2.1) "java/lang/String" ∈ flatC mGv := by decide +kernel
  intro q hq
  obtain ⟨k1, k2⟩ := key q hq
  obtain ⟨a, c, cell, k, h1, -⟩ := Cond.exactly_spec (flat_of_before _ hgv _ k2)
  exact ⟨a, vk_R.of (hlw _ k1) h1⟩
theorem m_ncs : ∀ q ∈ mNcs, Cond.not (.castable q.1 q.2) ∈ flatC mGv := by decide +kernel
theorem m_i32 (x : Int32) : Int32.ofNat (x.toUInt32.toNat) = x := by
  apply Int32.toBitVec_inj.mp
  simp
theorem m_start {p : Program} {s : State} {m : MethodId} {meth : Method} {c : Code} {b L : Nat} {xs : Nat → Int32} (C0 : lw_At p s m meth c b L xs) : ∃ G : mG, G.1 = s.heap.size ∧ G.2.2.2 5 = b ∧ G.2.2.2 6 = L ∧ (∀ j, mScr G j = xs j) ∧ mInv G s s.heap := by
  obtain ⟨-, -, -, -, -, hlw, hX, hbl, -, hgv⟩ := C0
  have hts : ∀ w ∈ mTs, w.before #[Value.ref b] s = true := fun w hw => hlw w (List.mem_filter.mp hw).1
  obtain ⟨f, hf⟩ := Classical.axiomOfChoice (m_kn hts)
  obtain ⟨g, hg⟩ := Classical.axiomOfChoice (m_ta hlw hts)
  have hA : ∀ a : Nat, a < s.heap.size → ¬ s.heap.size ≤ a := fun a ha h => by omega
  obtain ⟨t0, e0, z0, r0⟩ := m_st0 (A := fun q => s.heap.size ≤ q) hlw hts hgv hA
  obtain ⟨t1, e1, z1, r1⟩ := m_st1 (A := fun q => s.heap.size ≤ q) hlw hts hgv hA
  obtain ⟨t2, e2, z2, r2⟩ := m_st2 (A := fun q => s.heap.size ≤ q) hlw hts hgv hA
  obtain ⟨t3, e3, z3, r3⟩ := m_st3 (A := fun q => s.heap.size ≤ q) hlw hts hgv hA
  obtain ⟨t4, e4, z4, r4⟩ := m_st4 (A := fun q => s.heap.size ≤ q) hlw hts hgv hA
  refine ⟨(s.heap.size, (fun c => (f c).1, fun c => (f c).2), g, fun i => match i with | 0 => t0 | 1 => t1 | 2 => t2 | 3 => t3 | 4 => t4 | 5 => b | 6 => L | j + 7 => (xs j).toUInt32.toNat), rfl, rfl, rfl, fun j => ?_, ⟨fun c q hq => hf c q hq, fun k q hq => ?_⟩, Nat.le_refl _, ⟨fun i hi => ?_, ⟨?_, ⟨?_, ⟨?_, ?_⟩, ?_, va_AO.of (hlw _ v235), fun q hq => va_Nc.of (flat_of_before _ hgv _ (m_ncs q hq))⟩⟩, ?_, ?_, m_strs hlw hgv, fun w hw hn => va_Nw.of (by cases w <;> first | rfl | cases hn) (hlw w hw)⟩⟩
  · show Int32.ofNat _ = _
    rw [Nat.add_comm]
    exact m_i32 _
  · match k, hq with
    | 0, hq => cases hq; exact hg 0 _ rfl
    | 1, hq => cases hq; exact hg 1 _ rfl
    | 2, hq => cases hq; exact hg 2 _ rfl
    | 3, hq => cases hq; exact hg 3 _ rfl
    | 4, hq => cases hq; exact hg 4 _ rfl
    | 5, hq => cases hq; exact hg 5 _ rfl
    | n + 6, hq => simp [mTys] at hq
  · match i, hi with
    | 0, _ => exact ⟨z0, r0⟩
    | 1, _ => exact ⟨z1, r1⟩
    | 2, _ => exact ⟨z2, r2⟩
    | 3, _ => exact ⟨z3, r3⟩
    | 4, _ => exact ⟨z4, r4⟩
    | n + 5, h => omega
  · exact va_Zof (hlw _ v289) (hts _ u79) (va_eqi (flat_of_before _ hgv _ (List.mem_of_getElem? (i := 22) (by decide +kernel)))) hA
  · obtain ⟨a, cc, cell, kk, h1, h2, h3, h4, h5, h6, -⟩ := Cond.exactly_spec (flat_of_before _ hgv (Cond.exactly (.static "LineFollowerBench" "SETTING_AT_FIRST" "[I") "[I") (by decide +kernel))
    obtain ⟨a', cell', g1, g2, g3⟩ := m_len (va_eqt (flat_of_before _ hgv (Cond.eq (.length (.static "LineFollowerBench" "SETTING_AT_FIRST" "[I")) (.int (Int32.ofNat 15))) (List.mem_of_getElem? (i := 6) (by decide +kernel)))) (by decide)
    cases e0.symm.trans h1
    cases e0.symm.trans g1
    obtain ⟨g4, g5, g6, -⟩ := State.arrayAt?_spec g2
    cases h3.symm.trans g4
    obtain ⟨c9, j1, j2, j3, j4, j5, j6, j7⟩ := r0
    cases h3.symm.trans j1
    refine ⟨cell, h3, ?_, g5, fun k h => ?_, ?_, j7⟩
    · have e := (hg 0 _ rfl).2
      exact h6.trans (Option.some.inj (h2.symm.trans e))
    · rw [h] at h5; cases h5
    · apply Array.ext_getElem?
      intro i
      by_cases hi : i < 15
      · rw [j6 i hi]
        exact (arrV_read _ (fun j => Value.int ((mSv 0).getD j 0)) hi).symm
      · rw [Array.getElem?_eq_none (by omega), Array.getElem?_eq_none]
        show (arrV _ 15 (fun j => Value.int ((mSv 0).getD j 0))).slots.size ≤ i
        rw [arrV_size]; omega
  · obtain ⟨scr, j1, j2, j3, j4, j5⟩ := hX
    refine ⟨scr, j1, j2, j3, j4, fun j hj => ?_⟩
    rw [j5 j hj]
    congr 2
    show xs j = Int32.ofNat _
    rw [Nat.add_comm]
    exact (m_i32 _).symm
  · exact hA b hbl
  · exact va_Zqof (hlw _ v1103) (hts _ u98) (flat_of_before _ hgv _ (List.mem_of_getElem? (i := 61) (by decide +kernel))) hA
  · exact vx_Zqof (hlw _ v744) (hts _ u86) (flat_of_before _ hgv _ (List.mem_of_getElem? (i := 23) (by decide +kernel))) hA
  · exact vx_Zqof (hlw _ v746) (hts _ u86) (flat_of_before _ hgv _ (List.mem_of_getElem? (i := 24) (by decide +kernel))) hA

