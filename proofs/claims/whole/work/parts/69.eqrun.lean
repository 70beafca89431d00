/-! the run of the class in ints is the reference's in longs -/
def ab (x : Int32) (n : Nat) : Prop := -(n : Int) ≤ x.toInt ∧ x.toInt ≤ (n : Int)
theorem mul_b {a b : Int} {m n : Nat} (h1 : -(m : Int) ≤ a) (h2 : a ≤ m) (h3 : -(n : Int) ≤ b) (h4 : b ≤ n) : -((m * n : Nat) : Int) ≤ a * b ∧ a * b ≤ ((m * n : Nat) : Int) := by
  have h : a.natAbs * b.natAbs ≤ m * n := Nat.mul_le_mul (by omega) (by omega)
  rw [← Int.natAbs_mul] at h
  omega
theorem z_i (x : Int32) : x.toInt64.toInt = x.toInt := Int32.toInt_toInt64 x
theorem z_inj {x y : Int32} : x.toInt64 = y.toInt64 ↔ x = y := ⟨fun h => Int32.toInt_inj.mp (by rw [← z_i, h, z_i]), fun h => by rw [h]⟩
theorem z_32 (x : Int32) : x.toInt64.toInt32 = x := by
  apply Int32.toInt_inj.mp
  rw [Int64.toInt_toInt32, z_i]
  exact Int.bmod_eq_of_le (by have := x.le_toInt; omega) (by have := x.toInt_lt; omega)
theorem z_le {x y : Int32} : x.toInt64 ≤ y.toInt64 ↔ x ≤ y := by rw [Int64.le_iff_toInt_le, z_i, z_i, i_le]
theorem z_neg {x : Int32} {n : Nat} (h : ab x n) (hn : n ≤ 2000000000) : -x.toInt64 = (-x).toInt64 := by
  have h1 := h.1
  have h2 := h.2
  apply Int64.toInt_inj.mp
  rw [FP.Core.int64_neg (by rw [z_i]; omega), z_i, z_i, Int32.toInt_neg]
  exact (Int.bmod_eq_of_le (by omega) (by omega)).symm
theorem i_neg {x : Int32} {n : Nat} (h : ab x n) (hn : n ≤ 2000000000) : (-x).toInt = -x.toInt := by
  rw [Int32.toInt_neg]
  exact Int.bmod_eq_of_le (by have := h.2; omega) (by have := h.1; omega)
theorem lim64 {r b : Int32} {n : Nat} (h : ab b n) (hn : n ≤ 2000000000) : (vX11_limited_ r.toInt64 b.toInt64).toInt32 = vX10_limited r b := by
  unfold vX11_limited_ vX10_limited
  simp only [lg_cmp_le, lg_cmp_ge]
  rw [z_neg h hn]
  by_cases h1 : r ≤ b
  · rw [if_pos (z_le.mpr h1), if_pos h1]
    by_cases h2 : -b ≤ r
    · rw [if_pos (z_le.mpr h2), if_pos h2, z_32]
    · rw [if_neg (fun q => h2 (z_le.mp q)), if_neg h2, z_32]
  · rw [if_neg (fun q => h1 (z_le.mp q)), if_neg h1, z_32]
theorem lim_ab {x b : Int32} {n : Nat} (h0 : 0 ≤ b.toInt) (h : b.toInt ≤ n) (hn : n ≤ 2000000000) : ab (vX10_limited x b) n := by
  have hb : ab b n := ⟨by omega, h⟩
  have e := i_neg hb hn
  unfold vX10_limited
  by_cases h1 : x ≤ b
  · rw [if_pos h1]
    by_cases h2 : -b ≤ x
    · rw [if_pos h2]
      rw [i_le, e] at h2
      rw [i_le] at h1
      exact ⟨by omega, by omega⟩
    · rw [if_neg h2]
      exact ⟨by rw [e]; omega, by rw [e]; omega⟩
  · rw [if_neg h1]
    exact hb
theorem i_64 : (64 : Int32).toInt = 64 := rfl
theorem l_64 : (64 : Int64).toInt = 64 := rfl
theorem i_16 : (16 : Int32).toInt = 16 := rfl
theorem l_16 : (16 : Int64).toInt = 16 := rfl
theorem tdiv_b {a : Int} {d m : Nat} (hd : 0 < d) (h1 : -((d * m : Nat) : Int) ≤ a) (h2 : a ≤ ((d * m : Nat) : Int)) : -(m : Int) ≤ a.tdiv d ∧ a.tdiv d ≤ m := by
  have e : (a.tdiv d).natAbs ≤ m := by
    rw [Int.natAbs_tdiv]
    show a.natAbs / (d : Int).natAbs ≤ m
    rw [Int.natAbs_natCast]
    have : a.natAbs ≤ d * m := by omega
    exact Nat.div_le_of_le_mul this
  omega
theorem raw_eq {a b c s n h : Int32} (a1 : ab a 999) (b1 : ab b 999) (c1 : ab c 999) (s1 : ab s 10000) (n1 : ab n 1000000) (h1 : ab h 20000) : (a.toInt64 * s.toInt64 + b.toInt64 * n.toInt64 + c.toInt64 * h.toInt64) / 64 = ((a * s + b * n + c * h) / 64).toInt64 ∧ ab ((a * s + b * n + c * h) / 64) 16100000 := by
  obtain ⟨p1, p2⟩ := mul_b a1.1 a1.2 s1.1 s1.2
  obtain ⟨q1, q2⟩ := mul_b b1.1 b1.2 n1.1 n1.2
  obtain ⟨r1, r2⟩ := mul_b c1.1 c1.2 h1.1 h1.2
  have e1 : (a * s).toInt = a.toInt * s.toInt := i_mul (by omega) (by omega)
  have e2 : (b * n).toInt = b.toInt * n.toInt := i_mul (by omega) (by omega)
  have e3 : (c * h).toInt = c.toInt * h.toInt := i_mul (by omega) (by omega)
  have f1 : (a.toInt64 * s.toInt64).toInt = a.toInt * s.toInt := by rw [FP.Core.int64_mul (by rw [z_i, z_i]; omega) (by rw [z_i, z_i]; omega), z_i, z_i]
  have f2 : (b.toInt64 * n.toInt64).toInt = b.toInt * n.toInt := by rw [FP.Core.int64_mul (by rw [z_i, z_i]; omega) (by rw [z_i, z_i]; omega), z_i, z_i]
  have f3 : (c.toInt64 * h.toInt64).toInt = c.toInt * h.toInt := by rw [FP.Core.int64_mul (by rw [z_i, z_i]; omega) (by rw [z_i, z_i]; omega), z_i, z_i]
  generalize a.toInt * s.toInt = x at *
  generalize b.toInt * n.toInt = y at *
  generalize c.toInt * h.toInt = v at *
  have g1 : (a * s + b * n).toInt = x + y := by rw [i_add (by rw [e1, e2]; omega) (by rw [e1, e2]; omega), e1, e2]
  have g2 : (a * s + b * n + c * h).toInt = x + y + v := by rw [i_add (by rw [g1, e3]; omega) (by rw [g1, e3]; omega), g1, e3]
  have k1 : (a.toInt64 * s.toInt64 + b.toInt64 * n.toInt64).toInt = x + y := by rw [FP.Core.int64_add (by rw [f1, f2]; omega) (by rw [f1, f2]; omega), f1, f2]
  have k2 : (a.toInt64 * s.toInt64 + b.toInt64 * n.toInt64 + c.toInt64 * h.toInt64).toInt = x + y + v := by rw [FP.Core.int64_add (by rw [k1, f3]; omega) (by rw [k1, f3]; omega), k1, f3]
  obtain ⟨t1, t2⟩ := tdiv_b (a := x + y + v) (d := 64) (m := 16100000) (by decide) (by omega) (by omega)
  rw [show ((64 : Nat) : Int) = 64 from rfl] at t1 t2
  have w1 : ((a * s + b * n + c * h) / 64).toInt = (x + y + v).tdiv 64 := by
    rw [Int32.toInt_div, g2, i_64]
    exact Int.bmod_eq_of_le (by omega) (by omega)
  refine ⟨?_, ⟨by rw [w1]; exact t1, by rw [w1]; exact t2⟩⟩
  apply Int64.toInt_inj.mp
  rw [z_i, w1, Int64.toInt_div, k2, l_64]
  exact Int.bmod_eq_of_le (by omega) (by omega)
theorem back_eq {su raw out k : Int32} (s1 : ab su 1000000) (r1 : ab raw 16100000) (o1 : ab out 1000) (k1 : ab k 64) : su.toInt64 - (raw.toInt64 - out.toInt64) * k.toInt64 / 16 = (su - (raw - out) * k / 16).toInt64 := by
  have hr := r1.1
  have hr2 := r1.2
  have ho := o1.1
  have ho2 := o1.2
  have hs := s1.1
  have hs2 := s1.2
  have e1 : (raw - out).toInt = raw.toInt - out.toInt := i_sub (by omega) (by omega)
  have f1 : (raw.toInt64 - out.toInt64).toInt = raw.toInt - out.toInt := by rw [FP.Core.int64_sub (by rw [z_i, z_i]; omega) (by rw [z_i, z_i]; omega), z_i, z_i]
  obtain ⟨p1, p2⟩ := mul_b (a := raw.toInt - out.toInt) (b := k.toInt) (m := 16101000) (n := 64) (by omega) (by omega) k1.1 k1.2
  have e2 : ((raw - out) * k).toInt = (raw.toInt - out.toInt) * k.toInt := by rw [i_mul (by rw [e1]; omega) (by rw [e1]; omega), e1]
  have f2 : ((raw.toInt64 - out.toInt64) * k.toInt64).toInt = (raw.toInt - out.toInt) * k.toInt := by rw [FP.Core.int64_mul (by rw [f1, z_i]; omega) (by rw [f1, z_i]; omega), f1, z_i]
  generalize (raw.toInt - out.toInt) * k.toInt = x at *
  obtain ⟨t1, t2⟩ := tdiv_b (a := x) (d := 16) (m := 64404000) (by decide) (by omega) (by omega)
  rw [show ((16 : Nat) : Int) = 16 from rfl] at t1 t2
  have e3 : ((raw - out) * k / 16).toInt = x.tdiv 16 := by
    rw [Int32.toInt_div, e2, i_16]
    exact Int.bmod_eq_of_le (by omega) (by omega)
  have f3 : ((raw.toInt64 - out.toInt64) * k.toInt64 / 16).toInt = x.tdiv 16 := by
    rw [Int64.toInt_div, f2, l_16]
    exact Int.bmod_eq_of_le (by omega) (by omega)
  apply Int64.toInt_inj.mp
  rw [z_i, FP.Core.int64_sub (by rw [z_i, f3]; omega) (by rw [z_i, f3]; omega), i_sub (by rw [e3]; omega) (by rw [e3]; omega), z_i, f3, e3]
