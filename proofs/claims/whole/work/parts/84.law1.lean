abbrev mL_set : mM := (yL_set, cL_set, 5, (some .int), [(0, 10, 13, 13), (0, 10, 17, 15)])
theorem u715 : (Cond.code ⟨"LineFollowerBench", "set", "(II)I"⟩ prog_1_method_2_code 4 (some .int) : Cond) ∈ mTs := mTs_in 715 (by decide +kernel) (by decide +kernel)
theorem co_X10_set : mCode mX10_set := ⟨u715, u70, by decide⟩
theorem u712 : (Cond.methodLink "LineFollowerBenchLaw" 7 ⟨"LineFollowerBench", "set", "(II)I"⟩ : Cond) ∈ mTs := mTs_in 712 (by decide +kernel) (by decide +kernel)
theorem u713 : (Cond.instanceMethod ⟨"LineFollowerBench", "set", "(II)I"⟩ : Cond) ∈ mTs := mTs_in 713 (by decide +kernel) (by decide +kernel)
theorem u714 : (Cond.selects "LineFollowerBench" ⟨"LineFollowerBench", "set", "(II)I"⟩ ⟨"LineFollowerBench", "set", "(II)I"⟩ : Cond) ∈ mTs := mTs_in 714 (by decide +kernel) (by decide +kernel)
theorem l_L_7 : mLinkV "LineFollowerBenchLaw" 7 2 mX10_set := ⟨⟨by decide, by decide, by decide +kernel⟩, co_X10_set, u712, u713, u714⟩
theorem u710 : (Cond.classLink "LineFollowerBenchLaw" 13 "java/lang/IndexOutOfBoundsException" : Cond) ∈ mTs := mTs_in 710 (by decide +kernel) (by decide +kernel)
theorem v719 : (Cond.castable "java/lang/IndexOutOfBoundsException" "java/lang/IndexOutOfBoundsException" : Cond) ∈ lw_tbl := List.mem_of_getElem? (i := 719) (by decide +kernel)
theorem u711 : (Cond.classLink "LineFollowerBenchLaw" 15 "java/lang/IllegalArgumentException" : Cond) ∈ mTs := mTs_in 711 (by decide +kernel) (by decide +kernel)
theorem v793 : (Cond.castable "java/lang/IllegalArgumentException" "java/lang/IllegalArgumentException" : Cond) ∈ lw_tbl := List.mem_of_getElem? (i := 793) (by decide +kernel)
theorem ca_L_set_1 : mCatch mL_set 5 "java/lang/IndexOutOfBoundsException" 13 := ⟨[], [(0, 10, 17, 15)], (0, 10, 13, 13), "java/lang/IndexOutOfBoundsException", rfl, (fun z hz => by cases hz), by decide, by decide, u710, v719, rfl, by decide⟩
theorem ca_L_set_2 : mCatch mL_set 5 "java/lang/IllegalArgumentException" 17 := ⟨[(0, 10, 13, 13)], [], (0, 10, 17, 15), "java/lang/IllegalArgumentException", rfl, (fun z hz => by cases List.mem_singleton.mp hz; exact ⟨by decide, _, u710, by decide⟩), by decide, by decide, u711, v793, rfl, by decide⟩
theorem tL_set {G : mG} {w : mH} {a o kc ks : Nat} {x1 : Int32} {x2 : Int32} {t : Int32} {v : Int32} {Qb Q : mH → Prop} (hC : mC G mX10_set 9 kc ks [.ref a, .int x1, .int x2] w (tpO "java/lang/IndexOutOfBoundsException" "java/lang/IllegalArgumentException" "" t (.int v) Qb Q)) (ha : hk w a = (10, 0)) (ht : t = 0 ∨ t = 1 ∨ t = 2) (ho : ∀ u, Q u → hk u o = (17, 1)) : mCH G mL_set 10 kc ks [.ref a, .int x1, .int x2, .ref o] w (fun r w' => r = .inl (some (.int t)) ∧ (t = 0 → ∃ u, Q u ∧ w' = sal u o 0 v.toInt64) ∧ (¬ t = 0 → ∃ (u : mH) (n : Nat), Qb u ∧ hN u ≤ n ∧ w' = snn u n)) := by
  refine mCH_of (by decide +kernel) (Nat.le_of_ble_eq_true rfl) rfl ?_
  refine mW_aload_n (j := 3) dL_set_0 rfl rfl ?_
  refine mW_iconst (v := 0) dL_set_1 (by decide) ?_
  refine mW_aload_n (j := 0) dL_set_2 rfl rfl ?_
  refine mW_iload_n (j := 1) dL_set_3 rfl rfl ?_
  refine mW_iload_n (j := 2) dL_set_4 rfl rfl ?_
  refine mW_callVX (As := [.int x1, .int x2]) (rest := [.int 0, .ref o]) (kc2 := 0) (ks2 := 0) dL_set_5 l_L_7 rfl ha rfl (by decide) hC (Nat.le_of_ble_eq_true rfl) (by decide) (Nat.add_zero _) (Nat.add_zero _) (fun E w' h => ?_) (fun v' w' h => ?_)
  · rcases ht with h0 | h0 | h0
    · exact absurd (h.1 h0).1 (fun q => by cases q)
    · subst h0
      obtain ⟨h1, u, nn, h2, h3, h4⟩ := h.2 (by decide)
      cases h1
      subst h4
      refine ⟨13, ca_L_set_1, fun q => ?_⟩
      refine mW_astore (lv2 := [(4, .ref q), (0, .ref a), (1, .int x1), (2, .int x2), (3, .ref o)]) dL_set_13 (by decide) rfl ?_
      refine mW_iconst (v := 1) dL_set_15 (by decide) ?_
      exact mW_iret dL_set_16 rfl ⟨rfl, fun h0 => absurd h0 (by decide), fun _ => ⟨_, _, h2, h3, rfl⟩⟩
    · subst h0
      obtain ⟨h1, u, nn, h2, h3, h4⟩ := h.2 (by decide)
      cases h1
      subst h4
      refine ⟨17, ca_L_set_2, fun q => ?_⟩
      refine mW_astore (lv2 := [(4, .ref q), (0, .ref a), (1, .int x1), (2, .int x2), (3, .ref o)]) dL_set_17 (by decide) rfl ?_
      refine mW_iconst (v := 2) dL_set_19 (by decide) ?_
      exact mW_iret dL_set_20 rfl ⟨rfl, fun h0 => absurd h0 (by decide), fun _ => ⟨_, _, h2, h3, rfl⟩⟩
  · rcases ht with h0 | h0 | h0
    · obtain ⟨h1, h2⟩ := h.1 h0
      cases h1
      subst h0
      refine mW_i2l dL_set_8 ?_
      refine mW_lastJ dL_set_9 (ho _ h2) (by unfold vp_in; decide) (j := 0) (by decide) ?_
      refine mW_goto (tgt := 21) dL_set_10 (by decide) ?_
      refine mW_iconst (v := 0) dL_set_21 (by decide) ?_
      exact mW_iret dL_set_22 rfl ⟨rfl, fun _ => ⟨_, h2, rfl⟩, fun hn => absurd rfl hn⟩
    · exact absurd (h.2 (by rw [h0]; decide)).1 (fun q => by cases q)
    · exact absurd (h.2 (by rw [h0]; decide)).1 (fun q => by cases q)

abbrev mL_setting : mM := (yL_setting, cL_setting, 4, (some .int), [(0, 9, 12, 13)])
theorem u824 : (Cond.code ⟨"LineFollowerBench", "setting", "(I)I"⟩ prog_1_method_3_code 2 (some .int) : Cond) ∈ mTs := mTs_in 824 (by decide +kernel) (by decide +kernel)
theorem co_X10_setting : mCode mX10_setting := ⟨u824, u70, by decide⟩
theorem u821 : (Cond.methodLink "LineFollowerBenchLaw" 17 ⟨"LineFollowerBench", "setting", "(I)I"⟩ : Cond) ∈ mTs := mTs_in 821 (by decide +kernel) (by decide +kernel)
theorem u822 : (Cond.instanceMethod ⟨"LineFollowerBench", "setting", "(I)I"⟩ : Cond) ∈ mTs := mTs_in 822 (by decide +kernel) (by decide +kernel)
theorem u823 : (Cond.selects "LineFollowerBench" ⟨"LineFollowerBench", "setting", "(I)I"⟩ ⟨"LineFollowerBench", "setting", "(I)I"⟩ : Cond) ∈ mTs := mTs_in 823 (by decide +kernel) (by decide +kernel)
theorem l_L_17 : mLinkV "LineFollowerBenchLaw" 17 1 mX10_setting := ⟨⟨by decide, by decide, by decide +kernel⟩, co_X10_setting, u821, u822, u823⟩
theorem ca_L_setting_1 : mCatch mL_setting 4 "java/lang/IndexOutOfBoundsException" 12 := ⟨[], [], (0, 9, 12, 13), "java/lang/IndexOutOfBoundsException", rfl, (fun z hz => by cases hz), by decide, by decide, u710, v719, rfl, by decide⟩
theorem tL_setting {G : mG} {w : mH} {a o kc ks : Nat} {x1 : Int32} {t : Int32} {v : Int32} {Qb Q : mH → Prop} (hC : mC G mX10_setting 9 kc ks [.ref a, .int x1] w (tpO "java/lang/IndexOutOfBoundsException" "" "" t (.int v) Qb Q)) (ha : hk w a = (10, 0)) (ht : t = 0 ∨ t = 1) (ho : ∀ u, Q u → hk u o = (17, 1)) : mCH G mL_setting 10 kc ks [.ref a, .int x1, .ref o] w (fun r w' => r = .inl (some (.int t)) ∧ (t = 0 → ∃ u, Q u ∧ w' = sal u o 0 v.toInt64) ∧ (¬ t = 0 → ∃ (u : mH) (n : Nat), Qb u ∧ hN u ≤ n ∧ w' = snn u n)) := by
  refine mCH_of (by decide +kernel) (Nat.le_of_ble_eq_true rfl) rfl ?_
  refine mW_aload_n (j := 2) dL_setting_0 rfl rfl ?_
  refine mW_iconst (v := 0) dL_setting_1 (by decide) ?_
  refine mW_aload_n (j := 0) dL_setting_2 rfl rfl ?_
  refine mW_iload_n (j := 1) dL_setting_3 rfl rfl ?_
  refine mW_callVX (As := [.int x1]) (rest := [.int 0, .ref o]) (kc2 := 0) (ks2 := 0) dL_setting_4 l_L_17 rfl ha rfl (by decide) hC (Nat.le_of_ble_eq_true rfl) (by decide) (Nat.add_zero _) (Nat.add_zero _) (fun E w' h => ?_) (fun v' w' h => ?_)
  · rcases ht with h0 | h0
    · exact absurd (h.1 h0).1 (fun q => by cases q)
    · subst h0
      obtain ⟨h1, u, nn, h2, h3, h4⟩ := h.2 (by decide)
      cases h1
      subst h4
      refine ⟨12, ca_L_setting_1, fun q => ?_⟩
      refine mW_astore_n (lv2 := [(3, .ref q), (0, .ref a), (1, .int x1), (2, .ref o)]) dL_setting_12 rfl (by decide) rfl ?_
      refine mW_iconst (v := 1) dL_setting_13 (by decide) ?_
      exact mW_iret dL_setting_14 rfl ⟨rfl, fun h0 => absurd h0 (by decide), fun _ => ⟨_, _, h2, h3, rfl⟩⟩
  · rcases ht with h0 | h0
    · obtain ⟨h1, h2⟩ := h.1 h0
      cases h1
      subst h0
      refine mW_i2l dL_setting_7 ?_
      refine mW_lastJ dL_setting_8 (ho _ h2) (by unfold vp_in; decide) (j := 0) (by decide) ?_
      refine mW_goto (tgt := 15) dL_setting_9 (by decide) ?_
      refine mW_iconst (v := 0) dL_setting_15 (by decide) ?_
      exact mW_iret dL_setting_16 rfl ⟨rfl, fun _ => ⟨_, h2, rfl⟩, fun hn => absurd rfl hn⟩
    · exact absurd (h.2 (by rw [h0]; decide)).1 (fun q => by cases q)

abbrev mL_setPoint : mM := (yL_setPoint, cL_setPoint, 5, (some .int), [(0, 10, 13, 15), (0, 10, 17, 24)])
theorem u832 : (Cond.code ⟨"LineFollowerBench", "setPoint", "(II)I"⟩ prog_1_method_4_code 3 (some .int) : Cond) ∈ mTs := mTs_in 832 (by decide +kernel) (by decide +kernel)
theorem co_X10_setPoint : mCode mX10_setPoint := ⟨u832, u70, by decide⟩
theorem u829 : (Cond.methodLink "LineFollowerBenchLaw" 21 ⟨"LineFollowerBench", "setPoint", "(II)I"⟩ : Cond) ∈ mTs := mTs_in 829 (by decide +kernel) (by decide +kernel)
theorem u830 : (Cond.instanceMethod ⟨"LineFollowerBench", "setPoint", "(II)I"⟩ : Cond) ∈ mTs := mTs_in 830 (by decide +kernel) (by decide +kernel)
theorem u831 : (Cond.selects "LineFollowerBench" ⟨"LineFollowerBench", "setPoint", "(II)I"⟩ ⟨"LineFollowerBench", "setPoint", "(II)I"⟩ : Cond) ∈ mTs := mTs_in 831 (by decide +kernel) (by decide +kernel)
theorem l_L_21 : mLinkV "LineFollowerBenchLaw" 21 2 mX10_setPoint := ⟨⟨by decide, by decide, by decide +kernel⟩, co_X10_setPoint, u829, u830, u831⟩
theorem u828 : (Cond.classLink "LineFollowerBenchLaw" 24 "java/lang/IllegalStateException" : Cond) ∈ mTs := mTs_in 828 (by decide +kernel) (by decide +kernel)
theorem v848 : (Cond.castable "java/lang/IllegalStateException" "java/lang/IllegalStateException" : Cond) ∈ lw_tbl := List.mem_of_getElem? (i := 848) (by decide +kernel)
theorem ca_L_setPoint_1 : mCatch mL_setPoint 5 "java/lang/IllegalArgumentException" 13 := ⟨[], [(0, 10, 17, 24)], (0, 10, 13, 15), "java/lang/IllegalArgumentException", rfl, (fun z hz => by cases hz), by decide, by decide, u711, v793, rfl, by decide⟩
theorem ca_L_setPoint_2 : mCatch mL_setPoint 5 "java/lang/IllegalStateException" 17 := ⟨[(0, 10, 13, 15)], [], (0, 10, 17, 24), "java/lang/IllegalStateException", rfl, (fun z hz => by cases List.mem_singleton.mp hz; exact ⟨by decide, _, u711, by decide⟩), by decide, by decide, u828, v848, rfl, by decide⟩
theorem tL_setPoint {G : mG} {w : mH} {a o kc ks : Nat} {x1 : Int32} {x2 : Int32} {t : Int32} {v : Int32} {Qb Q : mH → Prop} (hC : mC G mX10_setPoint 9 kc ks [.ref a, .int x1, .int x2] w (tpO "java/lang/IllegalArgumentException" "java/lang/IllegalStateException" "" t (.int v) Qb Q)) (ha : hk w a = (10, 0)) (ht : t = 0 ∨ t = 1 ∨ t = 2) (ho : ∀ u, Q u → hk u o = (17, 1)) : mCH G mL_setPoint 10 kc ks [.ref a, .int x1, .int x2, .ref o] w (fun r w' => r = .inl (some (.int t)) ∧ (t = 0 → ∃ u, Q u ∧ w' = sal u o 0 v.toInt64) ∧ (¬ t = 0 → ∃ (u : mH) (n : Nat), Qb u ∧ hN u ≤ n ∧ w' = snn u n)) := by
  refine mCH_of (by decide +kernel) (Nat.le_of_ble_eq_true rfl) rfl ?_
  refine mW_aload_n (j := 3) dL_setPoint_0 rfl rfl ?_
  refine mW_iconst (v := 0) dL_setPoint_1 (by decide) ?_
  refine mW_aload_n (j := 0) dL_setPoint_2 rfl rfl ?_
  refine mW_iload_n (j := 1) dL_setPoint_3 rfl rfl ?_
  refine mW_iload_n (j := 2) dL_setPoint_4 rfl rfl ?_
  refine mW_callVX (As := [.int x1, .int x2]) (rest := [.int 0, .ref o]) (kc2 := 0) (ks2 := 0) dL_setPoint_5 l_L_21 rfl ha rfl (by decide) hC (Nat.le_of_ble_eq_true rfl) (by decide) (Nat.add_zero _) (Nat.add_zero _) (fun E w' h => ?_) (fun v' w' h => ?_)
  · rcases ht with h0 | h0 | h0
    · exact absurd (h.1 h0).1 (fun q => by cases q)
    · subst h0
      obtain ⟨h1, u, nn, h2, h3, h4⟩ := h.2 (by decide)
      cases h1
      subst h4
      refine ⟨13, ca_L_setPoint_1, fun q => ?_⟩
      refine mW_astore (lv2 := [(4, .ref q), (0, .ref a), (1, .int x1), (2, .int x2), (3, .ref o)]) dL_setPoint_13 (by decide) rfl ?_
      refine mW_iconst (v := 1) dL_setPoint_15 (by decide) ?_
      exact mW_iret dL_setPoint_16 rfl ⟨rfl, fun h0 => absurd h0 (by decide), fun _ => ⟨_, _, h2, h3, rfl⟩⟩
    · subst h0
      obtain ⟨h1, u, nn, h2, h3, h4⟩ := h.2 (by decide)
      cases h1
      subst h4
      refine ⟨17, ca_L_setPoint_2, fun q => ?_⟩
      refine mW_astore (lv2 := [(4, .ref q), (0, .ref a), (1, .int x1), (2, .int x2), (3, .ref o)]) dL_setPoint_17 (by decide) rfl ?_
      refine mW_iconst (v := 2) dL_setPoint_19 (by decide) ?_
      exact mW_iret dL_setPoint_20 rfl ⟨rfl, fun h0 => absurd h0 (by decide), fun _ => ⟨_, _, h2, h3, rfl⟩⟩
  · rcases ht with h0 | h0 | h0
    · obtain ⟨h1, h2⟩ := h.1 h0
      cases h1
      subst h0
      refine mW_i2l dL_setPoint_8 ?_
      refine mW_lastJ dL_setPoint_9 (ho _ h2) (by unfold vp_in; decide) (j := 0) (by decide) ?_
      refine mW_goto (tgt := 21) dL_setPoint_10 (by decide) ?_
      refine mW_iconst (v := 0) dL_setPoint_21 (by decide) ?_
      exact mW_iret dL_setPoint_22 rfl ⟨rfl, fun _ => ⟨_, h2, rfl⟩, fun hn => absurd rfl hn⟩
    · exact absurd (h.2 (by rw [h0]; decide)).1 (fun q => by cases q)
    · exact absurd (h.2 (by rw [h0]; decide)).1 (fun q => by cases q)

abbrev mL_removePoint : mM := (yL_removePoint, cL_removePoint, 4, (some .int), [(0, 9, 12, 29)])
theorem u877 : (Cond.code ⟨"LineFollowerBench", "removePoint", "(I)I"⟩ prog_1_method_5_code 4 (some .int) : Cond) ∈ mTs := mTs_in 877 (by decide +kernel) (by decide +kernel)
theorem co_X10_removePoint : mCode mX10_removePoint := ⟨u877, u70, by decide⟩
theorem u874 : (Cond.methodLink "LineFollowerBenchLaw" 26 ⟨"LineFollowerBench", "removePoint", "(I)I"⟩ : Cond) ∈ mTs := mTs_in 874 (by decide +kernel) (by decide +kernel)
theorem u875 : (Cond.instanceMethod ⟨"LineFollowerBench", "removePoint", "(I)I"⟩ : Cond) ∈ mTs := mTs_in 875 (by decide +kernel) (by decide +kernel)
theorem u876 : (Cond.selects "LineFollowerBench" ⟨"LineFollowerBench", "removePoint", "(I)I"⟩ ⟨"LineFollowerBench", "removePoint", "(I)I"⟩ : Cond) ∈ mTs := mTs_in 876 (by decide +kernel) (by decide +kernel)
theorem l_L_26 : mLinkV "LineFollowerBenchLaw" 26 1 mX10_removePoint := ⟨⟨by decide, by decide, by decide +kernel⟩, co_X10_removePoint, u874, u875, u876⟩
theorem u873 : (Cond.classLink "LineFollowerBenchLaw" 29 "java/util/NoSuchElementException" : Cond) ∈ mTs := mTs_in 873 (by decide +kernel) (by decide +kernel)
theorem v882 : (Cond.castable "java/util/NoSuchElementException" "java/util/NoSuchElementException" : Cond) ∈ lw_tbl := List.mem_of_getElem? (i := 882) (by decide +kernel)
theorem ca_L_removePoint_1 : mCatch mL_removePoint 4 "java/util/NoSuchElementException" 12 := ⟨[], [], (0, 9, 12, 29), "java/util/NoSuchElementException", rfl, (fun z hz => by cases hz), by decide, by decide, u873, v882, rfl, by decide⟩
theorem tL_removePoint {G : mG} {w : mH} {a o kc ks : Nat} {x1 : Int32} {t : Int32} {v : Int32} {Qb Q : mH → Prop} (hC : mC G mX10_removePoint 9 kc ks [.ref a, .int x1] w (tpO "java/util/NoSuchElementException" "" "" t (.int v) Qb Q)) (ha : hk w a = (10, 0)) (ht : t = 0 ∨ t = 1) (ho : ∀ u, Q u → hk u o = (17, 1)) : mCH G mL_removePoint 10 kc ks [.ref a, .int x1, .ref o] w (fun r w' => r = .inl (some (.int t)) ∧ (t = 0 → ∃ u, Q u ∧ w' = sal u o 0 v.toInt64) ∧ (¬ t = 0 → ∃ (u : mH) (n : Nat), Qb u ∧ hN u ≤ n ∧ w' = snn u n)) := by
  refine mCH_of (by decide +kernel) (Nat.le_of_ble_eq_true rfl) rfl ?_
  refine mW_aload_n (j := 2) dL_removePoint_0 rfl rfl ?_
  refine mW_iconst (v := 0) dL_removePoint_1 (by decide) ?_
  refine mW_aload_n (j := 0) dL_removePoint_2 rfl rfl ?_
  refine mW_iload_n (j := 1) dL_removePoint_3 rfl rfl ?_
  refine mW_callVX (As := [.int x1]) (rest := [.int 0, .ref o]) (kc2 := 0) (ks2 := 0) dL_removePoint_4 l_L_26 rfl ha rfl (by decide) hC (Nat.le_of_ble_eq_true rfl) (by decide) (Nat.add_zero _) (Nat.add_zero _) (fun E w' h => ?_) (fun v' w' h => ?_)
  · rcases ht with h0 | h0
    · exact absurd (h.1 h0).1 (fun q => by cases q)
    · subst h0
      obtain ⟨h1, u, nn, h2, h3, h4⟩ := h.2 (by decide)
      cases h1
      subst h4
      refine ⟨12, ca_L_removePoint_1, fun q => ?_⟩
      refine mW_astore_n (lv2 := [(3, .ref q), (0, .ref a), (1, .int x1), (2, .ref o)]) dL_removePoint_12 rfl (by decide) rfl ?_
      refine mW_iconst (v := 1) dL_removePoint_13 (by decide) ?_
      exact mW_iret dL_removePoint_14 rfl ⟨rfl, fun h0 => absurd h0 (by decide), fun _ => ⟨_, _, h2, h3, rfl⟩⟩
  · rcases ht with h0 | h0
    · obtain ⟨h1, h2⟩ := h.1 h0
      cases h1
      subst h0
      refine mW_i2l dL_removePoint_7 ?_
      refine mW_lastJ dL_removePoint_8 (ho _ h2) (by unfold vp_in; decide) (j := 0) (by decide) ?_
      refine mW_goto (tgt := 15) dL_removePoint_9 (by decide) ?_
      refine mW_iconst (v := 0) dL_removePoint_15 (by decide) ?_
      exact mW_iret dL_removePoint_16 rfl ⟨rfl, fun _ => ⟨_, h2, rfl⟩, fun hn => absurd rfl hn⟩
    · exact absurd (h.2 (by rw [h0]; decide)).1 (fun q => by cases q)

abbrev mL_point : mM := (yL_point, cL_point, 5, (some .int), [(0, 10, 13, 29), (0, 10, 17, 15)])
theorem u906 : (Cond.code ⟨"LineFollowerBench", "point", "(II)I"⟩ prog_1_method_6_code 3 (some .int) : Cond) ∈ mTs := mTs_in 906 (by decide +kernel) (by decide +kernel)
theorem co_X10_point : mCode mX10_point := ⟨u906, u70, by decide⟩
theorem u903 : (Cond.methodLink "LineFollowerBenchLaw" 31 ⟨"LineFollowerBench", "point", "(II)I"⟩ : Cond) ∈ mTs := mTs_in 903 (by decide +kernel) (by decide +kernel)
theorem u904 : (Cond.instanceMethod ⟨"LineFollowerBench", "point", "(II)I"⟩ : Cond) ∈ mTs := mTs_in 904 (by decide +kernel) (by decide +kernel)
theorem u905 : (Cond.selects "LineFollowerBench" ⟨"LineFollowerBench", "point", "(II)I"⟩ ⟨"LineFollowerBench", "point", "(II)I"⟩ : Cond) ∈ mTs := mTs_in 905 (by decide +kernel) (by decide +kernel)
theorem l_L_31 : mLinkV "LineFollowerBenchLaw" 31 2 mX10_point := ⟨⟨by decide, by decide, by decide +kernel⟩, co_X10_point, u903, u904, u905⟩
theorem ca_L_point_1 : mCatch mL_point 5 "java/util/NoSuchElementException" 13 := ⟨[], [(0, 10, 17, 15)], (0, 10, 13, 29), "java/util/NoSuchElementException", rfl, (fun z hz => by cases hz), by decide, by decide, u873, v882, rfl, by decide⟩
theorem ca_L_point_2 : mCatch mL_point 5 "java/lang/IllegalArgumentException" 17 := ⟨[(0, 10, 13, 29)], [], (0, 10, 17, 15), "java/lang/IllegalArgumentException", rfl, (fun z hz => by cases List.mem_singleton.mp hz; exact ⟨by decide, _, u873, by decide⟩), by decide, by decide, u711, v793, rfl, by decide⟩
theorem tL_point {G : mG} {w : mH} {a o kc ks : Nat} {x1 : Int32} {x2 : Int32} {t : Int32} {v : Int32} {Qb Q : mH → Prop} (hC : mC G mX10_point 9 kc ks [.ref a, .int x1, .int x2] w (tpO "java/util/NoSuchElementException" "java/lang/IllegalArgumentException" "" t (.int v) Qb Q)) (ha : hk w a = (10, 0)) (ht : t = 0 ∨ t = 1 ∨ t = 2) (ho : ∀ u, Q u → hk u o = (17, 1)) : mCH G mL_point 10 kc ks [.ref a, .int x1, .int x2, .ref o] w (fun r w' => r = .inl (some (.int t)) ∧ (t = 0 → ∃ u, Q u ∧ w' = sal u o 0 v.toInt64) ∧ (¬ t = 0 → ∃ (u : mH) (n : Nat), Qb u ∧ hN u ≤ n ∧ w' = snn u n)) := by
  refine mCH_of (by decide +kernel) (Nat.le_of_ble_eq_true rfl) rfl ?_
  refine mW_aload_n (j := 3) dL_point_0 rfl rfl ?_
  refine mW_iconst (v := 0) dL_point_1 (by decide) ?_
  refine mW_aload_n (j := 0) dL_point_2 rfl rfl ?_
  refine mW_iload_n (j := 1) dL_point_3 rfl rfl ?_
  refine mW_iload_n (j := 2) dL_point_4 rfl rfl ?_
  refine mW_callVX (As := [.int x1, .int x2]) (rest := [.int 0, .ref o]) (kc2 := 0) (ks2 := 0) dL_point_5 l_L_31 rfl ha rfl (by decide) hC (Nat.le_of_ble_eq_true rfl) (by decide) (Nat.add_zero _) (Nat.add_zero _) (fun E w' h => ?_) (fun v' w' h => ?_)
  · rcases ht with h0 | h0 | h0
    · exact absurd (h.1 h0).1 (fun q => by cases q)
    · subst h0
      obtain ⟨h1, u, nn, h2, h3, h4⟩ := h.2 (by decide)
      cases h1
      subst h4
      refine ⟨13, ca_L_point_1, fun q => ?_⟩
      refine mW_astore (lv2 := [(4, .ref q), (0, .ref a), (1, .int x1), (2, .int x2), (3, .ref o)]) dL_point_13 (by decide) rfl ?_
      refine mW_iconst (v := 1) dL_point_15 (by decide) ?_
      exact mW_iret dL_point_16 rfl ⟨rfl, fun h0 => absurd h0 (by decide), fun _ => ⟨_, _, h2, h3, rfl⟩⟩
    · subst h0
      obtain ⟨h1, u, nn, h2, h3, h4⟩ := h.2 (by decide)
      cases h1
      subst h4
      refine ⟨17, ca_L_point_2, fun q => ?_⟩
      refine mW_astore (lv2 := [(4, .ref q), (0, .ref a), (1, .int x1), (2, .int x2), (3, .ref o)]) dL_point_17 (by decide) rfl ?_
      refine mW_iconst (v := 2) dL_point_19 (by decide) ?_
      exact mW_iret dL_point_20 rfl ⟨rfl, fun h0 => absurd h0 (by decide), fun _ => ⟨_, _, h2, h3, rfl⟩⟩
  · rcases ht with h0 | h0 | h0
    · obtain ⟨h1, h2⟩ := h.1 h0
      cases h1
      subst h0
      refine mW_i2l dL_point_8 ?_
      refine mW_lastJ dL_point_9 (ho _ h2) (by unfold vp_in; decide) (j := 0) (by decide) ?_
      refine mW_goto (tgt := 21) dL_point_10 (by decide) ?_
      refine mW_iconst (v := 0) dL_point_21 (by decide) ?_
      exact mW_iret dL_point_22 rfl ⟨rfl, fun _ => ⟨_, h2, rfl⟩, fun hn => absurd rfl hn⟩
    · exact absurd (h.2 (by rw [h0]; decide)).1 (fun q => by cases q)
    · exact absurd (h.2 (by rw [h0]; decide)).1 (fun q => by cases q)

abbrev mL_table : mM := (yL_table, cL_table, 4, (some .int), [(0, 9, 12, 15)])
theorem u915 : (Cond.code ⟨"LineFollowerBench", "table", "(I)I"⟩ prog_1_method_7_code 2 (some .int) : Cond) ∈ mTs := mTs_in 915 (by decide +kernel) (by decide +kernel)
theorem co_X10_table : mCode mX10_table := ⟨u915, u70, by decide⟩
theorem u912 : (Cond.methodLink "LineFollowerBenchLaw" 34 ⟨"LineFollowerBench", "table", "(I)I"⟩ : Cond) ∈ mTs := mTs_in 912 (by decide +kernel) (by decide +kernel)
theorem u913 : (Cond.instanceMethod ⟨"LineFollowerBench", "table", "(I)I"⟩ : Cond) ∈ mTs := mTs_in 913 (by decide +kernel) (by decide +kernel)
theorem u914 : (Cond.selects "LineFollowerBench" ⟨"LineFollowerBench", "table", "(I)I"⟩ ⟨"LineFollowerBench", "table", "(I)I"⟩ : Cond) ∈ mTs := mTs_in 914 (by decide +kernel) (by decide +kernel)
theorem l_L_34 : mLinkV "LineFollowerBenchLaw" 34 1 mX10_table := ⟨⟨by decide, by decide, by decide +kernel⟩, co_X10_table, u912, u913, u914⟩
theorem ca_L_table_1 : mCatch mL_table 4 "java/lang/IllegalArgumentException" 12 := ⟨[], [], (0, 9, 12, 15), "java/lang/IllegalArgumentException", rfl, (fun z hz => by cases hz), by decide, by decide, u711, v793, rfl, by decide⟩
theorem tL_table {G : mG} {w : mH} {a o kc ks : Nat} {x1 : Int32} {t : Int32} {v : Int32} {Qb Q : mH → Prop} (hC : mC G mX10_table 9 kc ks [.ref a, .int x1] w (tpO "java/lang/IllegalArgumentException" "" "" t (.int v) Qb Q)) (ha : hk w a = (10, 0)) (ht : t = 0 ∨ t = 1) (ho : ∀ u, Q u → hk u o = (17, 1)) : mCH G mL_table 10 kc ks [.ref a, .int x1, .ref o] w (fun r w' => r = .inl (some (.int t)) ∧ (t = 0 → ∃ u, Q u ∧ w' = sal u o 0 v.toInt64) ∧ (¬ t = 0 → ∃ (u : mH) (n : Nat), Qb u ∧ hN u ≤ n ∧ w' = snn u n)) := by
  refine mCH_of (by decide +kernel) (Nat.le_of_ble_eq_true rfl) rfl ?_
  refine mW_aload_n (j := 2) dL_table_0 rfl rfl ?_
  refine mW_iconst (v := 0) dL_table_1 (by decide) ?_
  refine mW_aload_n (j := 0) dL_table_2 rfl rfl ?_
  refine mW_iload_n (j := 1) dL_table_3 rfl rfl ?_
  refine mW_callVX (As := [.int x1]) (rest := [.int 0, .ref o]) (kc2 := 0) (ks2 := 0) dL_table_4 l_L_34 rfl ha rfl (by decide) hC (Nat.le_of_ble_eq_true rfl) (by decide) (Nat.add_zero _) (Nat.add_zero _) (fun E w' h => ?_) (fun v' w' h => ?_)
  · rcases ht with h0 | h0
    · exact absurd (h.1 h0).1 (fun q => by cases q)
    · subst h0
      obtain ⟨h1, u, nn, h2, h3, h4⟩ := h.2 (by decide)
      cases h1
      subst h4
      refine ⟨12, ca_L_table_1, fun q => ?_⟩
      refine mW_astore_n (lv2 := [(3, .ref q), (0, .ref a), (1, .int x1), (2, .ref o)]) dL_table_12 rfl (by decide) rfl ?_
      refine mW_iconst (v := 1) dL_table_13 (by decide) ?_
      exact mW_iret dL_table_14 rfl ⟨rfl, fun h0 => absurd h0 (by decide), fun _ => ⟨_, _, h2, h3, rfl⟩⟩
  · rcases ht with h0 | h0
    · obtain ⟨h1, h2⟩ := h.1 h0
      cases h1
      subst h0
      refine mW_i2l dL_table_7 ?_
      refine mW_lastJ dL_table_8 (ho _ h2) (by unfold vp_in; decide) (j := 0) (by decide) ?_
      refine mW_goto (tgt := 15) dL_table_9 (by decide) ?_
      refine mW_iconst (v := 0) dL_table_15 (by decide) ?_
      exact mW_iret dL_table_16 rfl ⟨rfl, fun _ => ⟨_, h2, rfl⟩, fun hn => absurd rfl hn⟩
    · exact absurd (h.2 (by rw [h0]; decide)).1 (fun q => by cases q)

abbrev mL_setWeight : mM := (yL_setWeight, cL_setWeight, 5, (some .int), [(0, 10, 13, 13), (0, 10, 17, 15)])
theorem u924 : (Cond.code ⟨"LineFollowerBench", "setWeight", "(II)I"⟩ prog_1_method_8_code 4 (some .int) : Cond) ∈ mTs := mTs_in 924 (by decide +kernel) (by decide +kernel)
theorem co_X10_setWeight : mCode mX10_setWeight := ⟨u924, u70, by decide⟩
theorem u921 : (Cond.methodLink "LineFollowerBenchLaw" 37 ⟨"LineFollowerBench", "setWeight", "(II)I"⟩ : Cond) ∈ mTs := mTs_in 921 (by decide +kernel) (by decide +kernel)
theorem u922 : (Cond.instanceMethod ⟨"LineFollowerBench", "setWeight", "(II)I"⟩ : Cond) ∈ mTs := mTs_in 922 (by decide +kernel) (by decide +kernel)
theorem u923 : (Cond.selects "LineFollowerBench" ⟨"LineFollowerBench", "setWeight", "(II)I"⟩ ⟨"LineFollowerBench", "setWeight", "(II)I"⟩ : Cond) ∈ mTs := mTs_in 923 (by decide +kernel) (by decide +kernel)
theorem l_L_37 : mLinkV "LineFollowerBenchLaw" 37 2 mX10_setWeight := ⟨⟨by decide, by decide, by decide +kernel⟩, co_X10_setWeight, u921, u922, u923⟩
theorem ca_L_setWeight_1 : mCatch mL_setWeight 5 "java/lang/IndexOutOfBoundsException" 13 := ⟨[], [(0, 10, 17, 15)], (0, 10, 13, 13), "java/lang/IndexOutOfBoundsException", rfl, (fun z hz => by cases hz), by decide, by decide, u710, v719, rfl, by decide⟩
theorem ca_L_setWeight_2 : mCatch mL_setWeight 5 "java/lang/IllegalArgumentException" 17 := ⟨[(0, 10, 13, 13)], [], (0, 10, 17, 15), "java/lang/IllegalArgumentException", rfl, (fun z hz => by cases List.mem_singleton.mp hz; exact ⟨by decide, _, u710, by decide⟩), by decide, by decide, u711, v793, rfl, by decide⟩
theorem tL_setWeight {G : mG} {w : mH} {a o kc ks : Nat} {x1 : Int32} {x2 : Int32} {t : Int32} {v : Int32} {Qb Q : mH → Prop} (hC : mC G mX10_setWeight 9 kc ks [.ref a, .int x1, .int x2] w (tpO "java/lang/IndexOutOfBoundsException" "java/lang/IllegalArgumentException" "" t (.int v) Qb Q)) (ha : hk w a = (10, 0)) (ht : t = 0 ∨ t = 1 ∨ t = 2) (ho : ∀ u, Q u → hk u o = (17, 1)) : mCH G mL_setWeight 10 kc ks [.ref a, .int x1, .int x2, .ref o] w (fun r w' => r = .inl (some (.int t)) ∧ (t = 0 → ∃ u, Q u ∧ w' = sal u o 0 v.toInt64) ∧ (¬ t = 0 → ∃ (u : mH) (n : Nat), Qb u ∧ hN u ≤ n ∧ w' = snn u n)) := by
  refine mCH_of (by decide +kernel) (Nat.le_of_ble_eq_true rfl) rfl ?_
  refine mW_aload_n (j := 3) dL_setWeight_0 rfl rfl ?_
  refine mW_iconst (v := 0) dL_setWeight_1 (by decide) ?_
  refine mW_aload_n (j := 0) dL_setWeight_2 rfl rfl ?_
  refine mW_iload_n (j := 1) dL_setWeight_3 rfl rfl ?_
  refine mW_iload_n (j := 2) dL_setWeight_4 rfl rfl ?_
  refine mW_callVX (As := [.int x1, .int x2]) (rest := [.int 0, .ref o]) (kc2 := 0) (ks2 := 0) dL_setWeight_5 l_L_37 rfl ha rfl (by decide) hC (Nat.le_of_ble_eq_true rfl) (by decide) (Nat.add_zero _) (Nat.add_zero _) (fun E w' h => ?_) (fun v' w' h => ?_)
  · rcases ht with h0 | h0 | h0
    · exact absurd (h.1 h0).1 (fun q => by cases q)
    · subst h0
      obtain ⟨h1, u, nn, h2, h3, h4⟩ := h.2 (by decide)
      cases h1
      subst h4
      refine ⟨13, ca_L_setWeight_1, fun q => ?_⟩
      refine mW_astore (lv2 := [(4, .ref q), (0, .ref a), (1, .int x1), (2, .int x2), (3, .ref o)]) dL_setWeight_13 (by decide) rfl ?_
      refine mW_iconst (v := 1) dL_setWeight_15 (by decide) ?_
      exact mW_iret dL_setWeight_16 rfl ⟨rfl, fun h0 => absurd h0 (by decide), fun _ => ⟨_, _, h2, h3, rfl⟩⟩
    · subst h0
      obtain ⟨h1, u, nn, h2, h3, h4⟩ := h.2 (by decide)
      cases h1
      subst h4
      refine ⟨17, ca_L_setWeight_2, fun q => ?_⟩
      refine mW_astore (lv2 := [(4, .ref q), (0, .ref a), (1, .int x1), (2, .int x2), (3, .ref o)]) dL_setWeight_17 (by decide) rfl ?_
      refine mW_iconst (v := 2) dL_setWeight_19 (by decide) ?_
      exact mW_iret dL_setWeight_20 rfl ⟨rfl, fun h0 => absurd h0 (by decide), fun _ => ⟨_, _, h2, h3, rfl⟩⟩
  · rcases ht with h0 | h0 | h0
    · obtain ⟨h1, h2⟩ := h.1 h0
      cases h1
      subst h0
      refine mW_i2l dL_setWeight_8 ?_
      refine mW_lastJ dL_setWeight_9 (ho _ h2) (by unfold vp_in; decide) (j := 0) (by decide) ?_
      refine mW_goto (tgt := 21) dL_setWeight_10 (by decide) ?_
      refine mW_iconst (v := 0) dL_setWeight_21 (by decide) ?_
      exact mW_iret dL_setWeight_22 rfl ⟨rfl, fun _ => ⟨_, h2, rfl⟩, fun hn => absurd rfl hn⟩
    · exact absurd (h.2 (by rw [h0]; decide)).1 (fun q => by cases q)
    · exact absurd (h.2 (by rw [h0]; decide)).1 (fun q => by cases q)

abbrev mL_setGrid : mM := (yL_setGrid, cL_setGrid, 7, (some .int), [(0, 14, 17, 13), (0, 14, 21, 15)])
theorem u933 : (Cond.code ⟨"LineFollowerBench", "setGrid", "(IIII)I"⟩ prog_1_method_9_code 5 (some .int) : Cond) ∈ mTs := mTs_in 933 (by decide +kernel) (by decide +kernel)
theorem co_X10_setGrid : mCode mX10_setGrid := ⟨u933, u70, by decide⟩
theorem u930 : (Cond.methodLink "LineFollowerBenchLaw" 40 ⟨"LineFollowerBench", "setGrid", "(IIII)I"⟩ : Cond) ∈ mTs := mTs_in 930 (by decide +kernel) (by decide +kernel)
theorem u931 : (Cond.instanceMethod ⟨"LineFollowerBench", "setGrid", "(IIII)I"⟩ : Cond) ∈ mTs := mTs_in 931 (by decide +kernel) (by decide +kernel)
theorem u932 : (Cond.selects "LineFollowerBench" ⟨"LineFollowerBench", "setGrid", "(IIII)I"⟩ ⟨"LineFollowerBench", "setGrid", "(IIII)I"⟩ : Cond) ∈ mTs := mTs_in 932 (by decide +kernel) (by decide +kernel)
theorem l_L_40 : mLinkV "LineFollowerBenchLaw" 40 4 mX10_setGrid := ⟨⟨by decide, by decide, by decide +kernel⟩, co_X10_setGrid, u930, u931, u932⟩
theorem ca_L_setGrid_1 : mCatch mL_setGrid 9 "java/lang/IndexOutOfBoundsException" 17 := ⟨[], [(0, 14, 21, 15)], (0, 14, 17, 13), "java/lang/IndexOutOfBoundsException", rfl, (fun z hz => by cases hz), by decide, by decide, u710, v719, rfl, by decide⟩
theorem ca_L_setGrid_2 : mCatch mL_setGrid 9 "java/lang/IllegalArgumentException" 21 := ⟨[(0, 14, 17, 13)], [], (0, 14, 21, 15), "java/lang/IllegalArgumentException", rfl, (fun z hz => by cases List.mem_singleton.mp hz; exact ⟨by decide, _, u710, by decide⟩), by decide, by decide, u711, v793, rfl, by decide⟩
theorem tL_setGrid {G : mG} {w : mH} {a o kc ks : Nat} {x1 : Int32} {x2 : Int32} {x3 : Int32} {x4 : Int32} {t : Int32} {v : Int32} {Qb Q : mH → Prop} (hC : mC G mX10_setGrid 9 kc ks [.ref a, .int x1, .int x2, .int x3, .int x4] w (tpO "java/lang/IndexOutOfBoundsException" "java/lang/IllegalArgumentException" "" t (.int v) Qb Q)) (ha : hk w a = (10, 0)) (ht : t = 0 ∨ t = 1 ∨ t = 2) (ho : ∀ u, Q u → hk u o = (17, 1)) : mCH G mL_setGrid 10 kc ks [.ref a, .int x1, .int x2, .int x3, .int x4, .ref o] w (fun r w' => r = .inl (some (.int t)) ∧ (t = 0 → ∃ u, Q u ∧ w' = sal u o 0 v.toInt64) ∧ (¬ t = 0 → ∃ (u : mH) (n : Nat), Qb u ∧ hN u ≤ n ∧ w' = snn u n)) := by
  refine mCH_of (by decide +kernel) (Nat.le_of_ble_eq_true rfl) rfl ?_
  refine mW_aload (j := 5) dL_setGrid_0 rfl ?_
  refine mW_iconst (v := 0) dL_setGrid_2 (by decide) ?_
  refine mW_aload_n (j := 0) dL_setGrid_3 rfl rfl ?_
  refine mW_iload_n (j := 1) dL_setGrid_4 rfl rfl ?_
  refine mW_iload_n (j := 2) dL_setGrid_5 rfl rfl ?_
  refine mW_iload_n (j := 3) dL_setGrid_6 rfl rfl ?_
  refine mW_iload (j := 4) dL_setGrid_7 rfl ?_
  refine mW_callVX (As := [.int x1, .int x2, .int x3, .int x4]) (rest := [.int 0, .ref o]) (kc2 := 0) (ks2 := 0) dL_setGrid_9 l_L_40 rfl ha rfl (by decide) hC (Nat.le_of_ble_eq_true rfl) (by decide) (Nat.add_zero _) (Nat.add_zero _) (fun E w' h => ?_) (fun v' w' h => ?_)
  · rcases ht with h0 | h0 | h0
    · exact absurd (h.1 h0).1 (fun q => by cases q)
    · subst h0
      obtain ⟨h1, u, nn, h2, h3, h4⟩ := h.2 (by decide)
      cases h1
      subst h4
      refine ⟨17, ca_L_setGrid_1, fun q => ?_⟩
      refine mW_astore (lv2 := [(6, .ref q), (0, .ref a), (1, .int x1), (2, .int x2), (3, .int x3), (4, .int x4), (5, .ref o)]) dL_setGrid_17 (by decide) rfl ?_
      refine mW_iconst (v := 1) dL_setGrid_19 (by decide) ?_
      exact mW_iret dL_setGrid_20 rfl ⟨rfl, fun h0 => absurd h0 (by decide), fun _ => ⟨_, _, h2, h3, rfl⟩⟩
    · subst h0
      obtain ⟨h1, u, nn, h2, h3, h4⟩ := h.2 (by decide)
      cases h1
      subst h4
      refine ⟨21, ca_L_setGrid_2, fun q => ?_⟩
      refine mW_astore (lv2 := [(6, .ref q), (0, .ref a), (1, .int x1), (2, .int x2), (3, .int x3), (4, .int x4), (5, .ref o)]) dL_setGrid_21 (by decide) rfl ?_
      refine mW_iconst (v := 2) dL_setGrid_23 (by decide) ?_
      exact mW_iret dL_setGrid_24 rfl ⟨rfl, fun h0 => absurd h0 (by decide), fun _ => ⟨_, _, h2, h3, rfl⟩⟩
  · rcases ht with h0 | h0 | h0
    · obtain ⟨h1, h2⟩ := h.1 h0
      cases h1
      subst h0
      refine mW_i2l dL_setGrid_12 ?_
      refine mW_lastJ dL_setGrid_13 (ho _ h2) (by unfold vp_in; decide) (j := 0) (by decide) ?_
      refine mW_goto (tgt := 25) dL_setGrid_14 (by decide) ?_
      refine mW_iconst (v := 0) dL_setGrid_25 (by decide) ?_
      exact mW_iret dL_setGrid_26 rfl ⟨rfl, fun _ => ⟨_, h2, rfl⟩, fun hn => absurd rfl hn⟩
    · exact absurd (h.2 (by rw [h0]; decide)).1 (fun q => by cases q)
    · exact absurd (h.2 (by rw [h0]; decide)).1 (fun q => by cases q)

abbrev mL_append : mM := (yL_append, cL_append, 4, (some .int), [(0, 9, 12, 15), (0, 9, 15, 24)])
theorem u943 : (Cond.code ⟨"LineFollowerBench", "append", "(I)I"⟩ prog_1_method_10_code 2 (some .int) : Cond) ∈ mTs := mTs_in 943 (by decide +kernel) (by decide +kernel)
theorem co_X10_append : mCode mX10_append := ⟨u943, u70, by decide⟩
theorem u940 : (Cond.methodLink "LineFollowerBenchLaw" 44 ⟨"LineFollowerBench", "append", "(I)I"⟩ : Cond) ∈ mTs := mTs_in 940 (by decide +kernel) (by decide +kernel)
theorem u941 : (Cond.instanceMethod ⟨"LineFollowerBench", "append", "(I)I"⟩ : Cond) ∈ mTs := mTs_in 941 (by decide +kernel) (by decide +kernel)
theorem u942 : (Cond.selects "LineFollowerBench" ⟨"LineFollowerBench", "append", "(I)I"⟩ ⟨"LineFollowerBench", "append", "(I)I"⟩ : Cond) ∈ mTs := mTs_in 942 (by decide +kernel) (by decide +kernel)
theorem l_L_44 : mLinkV "LineFollowerBenchLaw" 44 1 mX10_append := ⟨⟨by decide, by decide, by decide +kernel⟩, co_X10_append, u940, u941, u942⟩
theorem ca_L_append_1 : mCatch mL_append 4 "java/lang/IllegalArgumentException" 12 := ⟨[], [(0, 9, 15, 24)], (0, 9, 12, 15), "java/lang/IllegalArgumentException", rfl, (fun z hz => by cases hz), by decide, by decide, u711, v793, rfl, by decide⟩
theorem ca_L_append_2 : mCatch mL_append 4 "java/lang/IllegalStateException" 15 := ⟨[(0, 9, 12, 15)], [], (0, 9, 15, 24), "java/lang/IllegalStateException", rfl, (fun z hz => by cases List.mem_singleton.mp hz; exact ⟨by decide, _, u711, by decide⟩), by decide, by decide, u828, v848, rfl, by decide⟩
theorem tL_append {G : mG} {w : mH} {a o kc ks : Nat} {x1 : Int32} {t : Int32} {v : Int32} {Qb Q : mH → Prop} (hC : mC G mX10_append 9 kc ks [.ref a, .int x1] w (tpO "java/lang/IllegalArgumentException" "java/lang/IllegalStateException" "" t (.int v) Qb Q)) (ha : hk w a = (10, 0)) (ht : t = 0 ∨ t = 1 ∨ t = 2) (ho : ∀ u, Q u → hk u o = (17, 1)) : mCH G mL_append 10 kc ks [.ref a, .int x1, .ref o] w (fun r w' => r = .inl (some (.int t)) ∧ (t = 0 → ∃ u, Q u ∧ w' = sal u o 0 v.toInt64) ∧ (¬ t = 0 → ∃ (u : mH) (n : Nat), Qb u ∧ hN u ≤ n ∧ w' = snn u n)) := by
  refine mCH_of (by decide +kernel) (Nat.le_of_ble_eq_true rfl) rfl ?_
  refine mW_aload_n (j := 2) dL_append_0 rfl rfl ?_
  refine mW_iconst (v := 0) dL_append_1 (by decide) ?_
  refine mW_aload_n (j := 0) dL_append_2 rfl rfl ?_
  refine mW_iload_n (j := 1) dL_append_3 rfl rfl ?_
  refine mW_callVX (As := [.int x1]) (rest := [.int 0, .ref o]) (kc2 := 0) (ks2 := 0) dL_append_4 l_L_44 rfl ha rfl (by decide) hC (Nat.le_of_ble_eq_true rfl) (by decide) (Nat.add_zero _) (Nat.add_zero _) (fun E w' h => ?_) (fun v' w' h => ?_)
  · rcases ht with h0 | h0 | h0
    · exact absurd (h.1 h0).1 (fun q => by cases q)
    · subst h0
      obtain ⟨h1, u, nn, h2, h3, h4⟩ := h.2 (by decide)
      cases h1
      subst h4
      refine ⟨12, ca_L_append_1, fun q => ?_⟩
      refine mW_astore_n (lv2 := [(3, .ref q), (0, .ref a), (1, .int x1), (2, .ref o)]) dL_append_12 rfl (by decide) rfl ?_
      refine mW_iconst (v := 1) dL_append_13 (by decide) ?_
      exact mW_iret dL_append_14 rfl ⟨rfl, fun h0 => absurd h0 (by decide), fun _ => ⟨_, _, h2, h3, rfl⟩⟩
    · subst h0
      obtain ⟨h1, u, nn, h2, h3, h4⟩ := h.2 (by decide)
      cases h1
      subst h4
      refine ⟨15, ca_L_append_2, fun q => ?_⟩
      refine mW_astore_n (lv2 := [(3, .ref q), (0, .ref a), (1, .int x1), (2, .ref o)]) dL_append_15 rfl (by decide) rfl ?_
      refine mW_iconst (v := 2) dL_append_16 (by decide) ?_
      exact mW_iret dL_append_17 rfl ⟨rfl, fun h0 => absurd h0 (by decide), fun _ => ⟨_, _, h2, h3, rfl⟩⟩
  · rcases ht with h0 | h0 | h0
    · obtain ⟨h1, h2⟩ := h.1 h0
      cases h1
      subst h0
      refine mW_i2l dL_append_7 ?_
      refine mW_lastJ dL_append_8 (ho _ h2) (by unfold vp_in; decide) (j := 0) (by decide) ?_
      refine mW_goto (tgt := 18) dL_append_9 (by decide) ?_
      refine mW_iconst (v := 0) dL_append_18 (by decide) ?_
      exact mW_iret dL_append_19 rfl ⟨rfl, fun _ => ⟨_, h2, rfl⟩, fun hn => absurd rfl hn⟩
    · exact absurd (h.2 (by rw [h0]; decide)).1 (fun q => by cases q)
    · exact absurd (h.2 (by rw [h0]; decide)).1 (fun q => by cases q)

abbrev mL_load : mM := (yL_load, cL_load, 3, (some .int), [(0, 8, 11, 15)])
theorem u964 : (Cond.code ⟨"LineFollowerBench", "load", "()I"⟩ prog_1_method_11_code 2 (some .int) : Cond) ∈ mTs := mTs_in 964 (by decide +kernel) (by decide +kernel)
theorem co_X10_load : mCode mX10_load := ⟨u964, u70, by decide⟩
theorem u961 : (Cond.methodLink "LineFollowerBenchLaw" 47 ⟨"LineFollowerBench", "load", "()I"⟩ : Cond) ∈ mTs := mTs_in 961 (by decide +kernel) (by decide +kernel)
theorem u962 : (Cond.instanceMethod ⟨"LineFollowerBench", "load", "()I"⟩ : Cond) ∈ mTs := mTs_in 962 (by decide +kernel) (by decide +kernel)
theorem u963 : (Cond.selects "LineFollowerBench" ⟨"LineFollowerBench", "load", "()I"⟩ ⟨"LineFollowerBench", "load", "()I"⟩ : Cond) ∈ mTs := mTs_in 963 (by decide +kernel) (by decide +kernel)
theorem l_L_47 : mLinkV "LineFollowerBenchLaw" 47 0 mX10_load := ⟨⟨by decide, by decide, by decide +kernel⟩, co_X10_load, u961, u962, u963⟩
theorem ca_L_load_1 : mCatch mL_load 3 "java/lang/IllegalArgumentException" 11 := ⟨[], [], (0, 8, 11, 15), "java/lang/IllegalArgumentException", rfl, (fun z hz => by cases hz), by decide, by decide, u711, v793, rfl, by decide⟩
theorem tL_load {G : mG} {w : mH} {a o kc ks : Nat}  {t : Int32} {v : Int32} {Qb Q : mH → Prop} (hC : mC G mX10_load 9 kc ks [.ref a] w (tpO "java/lang/IllegalArgumentException" "" "" t (.int v) Qb Q)) (ha : hk w a = (10, 0)) (ht : t = 0 ∨ t = 1) (ho : ∀ u, Q u → hk u o = (17, 1)) : mCH G mL_load 10 kc ks [.ref a, .ref o] w (fun r w' => r = .inl (some (.int t)) ∧ (t = 0 → ∃ u, Q u ∧ w' = sal u o 0 v.toInt64) ∧ (¬ t = 0 → ∃ (u : mH) (n : Nat), Qb u ∧ hN u ≤ n ∧ w' = snn u n)) := by
  refine mCH_of (by decide +kernel) (Nat.le_of_ble_eq_true rfl) rfl ?_
  refine mW_aload_n (j := 1) dL_load_0 rfl rfl ?_
  refine mW_iconst (v := 0) dL_load_1 (by decide) ?_
  refine mW_aload_n (j := 0) dL_load_2 rfl rfl ?_
  refine mW_callVX (As := []) (rest := [.int 0, .ref o]) (kc2 := 0) (ks2 := 0) dL_load_3 l_L_47 rfl ha rfl (by decide) hC (Nat.le_of_ble_eq_true rfl) (by decide) (Nat.add_zero _) (Nat.add_zero _) (fun E w' h => ?_) (fun v' w' h => ?_)
  · rcases ht with h0 | h0
    · exact absurd (h.1 h0).1 (fun q => by cases q)
    · subst h0
      obtain ⟨h1, u, nn, h2, h3, h4⟩ := h.2 (by decide)
      cases h1
      subst h4
      refine ⟨11, ca_L_load_1, fun q => ?_⟩
      refine mW_astore_n (lv2 := [(2, .ref q), (0, .ref a), (1, .ref o)]) dL_load_11 rfl (by decide) rfl ?_
      refine mW_iconst (v := 1) dL_load_12 (by decide) ?_
      exact mW_iret dL_load_13 rfl ⟨rfl, fun h0 => absurd h0 (by decide), fun _ => ⟨_, _, h2, h3, rfl⟩⟩
  · rcases ht with h0 | h0
    · obtain ⟨h1, h2⟩ := h.1 h0
      cases h1
      subst h0
      refine mW_i2l dL_load_6 ?_
      refine mW_lastJ dL_load_7 (ho _ h2) (by unfold vp_in; decide) (j := 0) (by decide) ?_
      refine mW_goto (tgt := 14) dL_load_8 (by decide) ?_
      refine mW_iconst (v := 0) dL_load_14 (by decide) ?_
      exact mW_iret dL_load_15 rfl ⟨rfl, fun _ => ⟨_, h2, rfl⟩, fun hn => absurd rfl hn⟩
    · exact absurd (h.2 (by rw [h0]; decide)).1 (fun q => by cases q)

abbrev mL_describe : mM := (yL_describe, cL_describe, 4, (some .int), [(0, 9, 12, 13)])
theorem u1031 : (Cond.code ⟨"LineFollowerBench", "describe", "(I)I"⟩ prog_1_method_13_code 2 (some .int) : Cond) ∈ mTs := mTs_in 1031 (by decide +kernel) (by decide +kernel)
abbrev mX10_describe : mM := (yX10_describe, cX10_describe, 2, (some .int), [])
theorem co_X10_describe : mCode mX10_describe := ⟨u1031, u70, by decide⟩
theorem u1028 : (Cond.methodLink "LineFollowerBenchLaw" 51 ⟨"LineFollowerBench", "describe", "(I)I"⟩ : Cond) ∈ mTs := mTs_in 1028 (by decide +kernel) (by decide +kernel)
theorem u1029 : (Cond.instanceMethod ⟨"LineFollowerBench", "describe", "(I)I"⟩ : Cond) ∈ mTs := mTs_in 1029 (by decide +kernel) (by decide +kernel)
theorem u1030 : (Cond.selects "LineFollowerBench" ⟨"LineFollowerBench", "describe", "(I)I"⟩ ⟨"LineFollowerBench", "describe", "(I)I"⟩ : Cond) ∈ mTs := mTs_in 1030 (by decide +kernel) (by decide +kernel)
theorem l_L_51 : mLinkV "LineFollowerBenchLaw" 51 1 mX10_describe := ⟨⟨by decide, by decide, by decide +kernel⟩, co_X10_describe, u1028, u1029, u1030⟩
theorem ca_L_describe_1 : mCatch mL_describe 4 "java/lang/IndexOutOfBoundsException" 12 := ⟨[], [], (0, 9, 12, 13), "java/lang/IndexOutOfBoundsException", rfl, (fun z hz => by cases hz), by decide, by decide, u710, v719, rfl, by decide⟩
theorem tL_describe {G : mG} {w : mH} {a o kc ks : Nat} {x1 : Int32} {t : Int32} {v : Int32} {Qb Q : mH → Prop} (hC : mC G mX10_describe 9 kc ks [.ref a, .int x1] w (tpO "java/lang/IndexOutOfBoundsException" "" "" t (.int v) Qb Q)) (ha : hk w a = (10, 0)) (ht : t = 0 ∨ t = 1) (ho : ∀ u, Q u → hk u o = (17, 1)) : mCH G mL_describe 10 kc ks [.ref a, .int x1, .ref o] w (fun r w' => r = .inl (some (.int t)) ∧ (t = 0 → ∃ u, Q u ∧ w' = sal u o 0 v.toInt64) ∧ (¬ t = 0 → ∃ (u : mH) (n : Nat), Qb u ∧ hN u ≤ n ∧ w' = snn u n)) := by
  refine mCH_of (by decide +kernel) (Nat.le_of_ble_eq_true rfl) rfl ?_
  refine mW_aload_n (j := 2) dL_describe_0 rfl rfl ?_
  refine mW_iconst (v := 0) dL_describe_1 (by decide) ?_
  refine mW_aload_n (j := 0) dL_describe_2 rfl rfl ?_
  refine mW_iload_n (j := 1) dL_describe_3 rfl rfl ?_
  refine mW_callVX (As := [.int x1]) (rest := [.int 0, .ref o]) (kc2 := 0) (ks2 := 0) dL_describe_4 l_L_51 rfl ha rfl (by decide) hC (Nat.le_of_ble_eq_true rfl) (by decide) (Nat.add_zero _) (Nat.add_zero _) (fun E w' h => ?_) (fun v' w' h => ?_)
  · rcases ht with h0 | h0
    · exact absurd (h.1 h0).1 (fun q => by cases q)
    · subst h0
      obtain ⟨h1, u, nn, h2, h3, h4⟩ := h.2 (by decide)
      cases h1
      subst h4
      refine ⟨12, ca_L_describe_1, fun q => ?_⟩
      refine mW_astore_n (lv2 := [(3, .ref q), (0, .ref a), (1, .int x1), (2, .ref o)]) dL_describe_12 rfl (by decide) rfl ?_
      refine mW_iconst (v := 1) dL_describe_13 (by decide) ?_
      exact mW_iret dL_describe_14 rfl ⟨rfl, fun h0 => absurd h0 (by decide), fun _ => ⟨_, _, h2, h3, rfl⟩⟩
  · rcases ht with h0 | h0
    · obtain ⟨h1, h2⟩ := h.1 h0
      cases h1
      subst h0
      refine mW_i2l dL_describe_7 ?_
      refine mW_lastJ dL_describe_8 (ho _ h2) (by unfold vp_in; decide) (j := 0) (by decide) ?_
      refine mW_goto (tgt := 15) dL_describe_9 (by decide) ?_
      refine mW_iconst (v := 0) dL_describe_15 (by decide) ?_
      exact mW_iret dL_describe_16 rfl ⟨rfl, fun _ => ⟨_, h2, rfl⟩, fun hn => absurd rfl hn⟩
    · exact absurd (h.2 (by rw [h0]; decide)).1 (fun q => by cases q)

abbrev mL_curvature : mM := (yL_curvature, cL_curvature, 4, (some .int), [(0, 9, 12, 13)])
theorem u1348 : (Cond.code ⟨"LineFollowerBench", "curvature", "(I)I"⟩ prog_1_method_14_code 2 (some .int) : Cond) ∈ mTs := mTs_in 1348 (by decide +kernel) (by decide +kernel)
theorem co_X10_curvature : mCode mX10_curvature := ⟨u1348, u70, by decide⟩
theorem u1345 : (Cond.methodLink "LineFollowerBenchLaw" 54 ⟨"LineFollowerBench", "curvature", "(I)I"⟩ : Cond) ∈ mTs := mTs_in 1345 (by decide +kernel) (by decide +kernel)
theorem u1346 : (Cond.instanceMethod ⟨"LineFollowerBench", "curvature", "(I)I"⟩ : Cond) ∈ mTs := mTs_in 1346 (by decide +kernel) (by decide +kernel)
theorem u1347 : (Cond.selects "LineFollowerBench" ⟨"LineFollowerBench", "curvature", "(I)I"⟩ ⟨"LineFollowerBench", "curvature", "(I)I"⟩ : Cond) ∈ mTs := mTs_in 1347 (by decide +kernel) (by decide +kernel)
theorem l_L_54 : mLinkV "LineFollowerBenchLaw" 54 1 mX10_curvature := ⟨⟨by decide, by decide, by decide +kernel⟩, co_X10_curvature, u1345, u1346, u1347⟩
theorem ca_L_curvature_1 : mCatch mL_curvature 4 "java/lang/IndexOutOfBoundsException" 12 := ⟨[], [], (0, 9, 12, 13), "java/lang/IndexOutOfBoundsException", rfl, (fun z hz => by cases hz), by decide, by decide, u710, v719, rfl, by decide⟩
theorem tL_curvature {G : mG} {w : mH} {a o kc ks : Nat} {x1 : Int32} {t : Int32} {v : Int32} {Qb Q : mH → Prop} (hC : mC G mX10_curvature 9 kc ks [.ref a, .int x1] w (tpO "java/lang/IndexOutOfBoundsException" "" "" t (.int v) Qb Q)) (ha : hk w a = (10, 0)) (ht : t = 0 ∨ t = 1) (ho : ∀ u, Q u → hk u o = (17, 1)) : mCH G mL_curvature 10 kc ks [.ref a, .int x1, .ref o] w (fun r w' => r = .inl (some (.int t)) ∧ (t = 0 → ∃ u, Q u ∧ w' = sal u o 0 v.toInt64) ∧ (¬ t = 0 → ∃ (u : mH) (n : Nat), Qb u ∧ hN u ≤ n ∧ w' = snn u n)) := by
  refine mCH_of (by decide +kernel) (Nat.le_of_ble_eq_true rfl) rfl ?_
  refine mW_aload_n (j := 2) dL_curvature_0 rfl rfl ?_
  refine mW_iconst (v := 0) dL_curvature_1 (by decide) ?_
  refine mW_aload_n (j := 0) dL_curvature_2 rfl rfl ?_
  refine mW_iload_n (j := 1) dL_curvature_3 rfl rfl ?_
  refine mW_callVX (As := [.int x1]) (rest := [.int 0, .ref o]) (kc2 := 0) (ks2 := 0) dL_curvature_4 l_L_54 rfl ha rfl (by decide) hC (Nat.le_of_ble_eq_true rfl) (by decide) (Nat.add_zero _) (Nat.add_zero _) (fun E w' h => ?_) (fun v' w' h => ?_)
  · rcases ht with h0 | h0
    · exact absurd (h.1 h0).1 (fun q => by cases q)
    · subst h0
      obtain ⟨h1, u, nn, h2, h3, h4⟩ := h.2 (by decide)
      cases h1
      subst h4
      refine ⟨12, ca_L_curvature_1, fun q => ?_⟩
      refine mW_astore_n (lv2 := [(3, .ref q), (0, .ref a), (1, .int x1), (2, .ref o)]) dL_curvature_12 rfl (by decide) rfl ?_
      refine mW_iconst (v := 1) dL_curvature_13 (by decide) ?_
      exact mW_iret dL_curvature_14 rfl ⟨rfl, fun h0 => absurd h0 (by decide), fun _ => ⟨_, _, h2, h3, rfl⟩⟩
  · rcases ht with h0 | h0
    · obtain ⟨h1, h2⟩ := h.1 h0
      cases h1
      subst h0
      refine mW_i2l dL_curvature_7 ?_
      refine mW_lastJ dL_curvature_8 (ho _ h2) (by unfold vp_in; decide) (j := 0) (by decide) ?_
      refine mW_goto (tgt := 15) dL_curvature_9 (by decide) ?_
      refine mW_iconst (v := 0) dL_curvature_15 (by decide) ?_
      exact mW_iret dL_curvature_16 rfl ⟨rfl, fun _ => ⟨_, h2, rfl⟩, fun hn => absurd rfl hn⟩
    · exact absurd (h.2 (by rw [h0]; decide)).1 (fun q => by cases q)

abbrev mL_push : mM := (yL_push, cL_push, 4, (some .int), [(0, 9, 12, 13)])
theorem u1357 : (Cond.code ⟨"LineFollowerBench", "push", "(I)I"⟩ prog_1_method_15_code 2 (some .int) : Cond) ∈ mTs := mTs_in 1357 (by decide +kernel) (by decide +kernel)
theorem co_X10_push : mCode mX10_push := ⟨u1357, u70, by decide⟩
theorem u1354 : (Cond.methodLink "LineFollowerBenchLaw" 57 ⟨"LineFollowerBench", "push", "(I)I"⟩ : Cond) ∈ mTs := mTs_in 1354 (by decide +kernel) (by decide +kernel)
theorem u1355 : (Cond.instanceMethod ⟨"LineFollowerBench", "push", "(I)I"⟩ : Cond) ∈ mTs := mTs_in 1355 (by decide +kernel) (by decide +kernel)
theorem u1356 : (Cond.selects "LineFollowerBench" ⟨"LineFollowerBench", "push", "(I)I"⟩ ⟨"LineFollowerBench", "push", "(I)I"⟩ : Cond) ∈ mTs := mTs_in 1356 (by decide +kernel) (by decide +kernel)
theorem l_L_57 : mLinkV "LineFollowerBenchLaw" 57 1 mX10_push := ⟨⟨by decide, by decide, by decide +kernel⟩, co_X10_push, u1354, u1355, u1356⟩
theorem ca_L_push_1 : mCatch mL_push 4 "java/lang/IndexOutOfBoundsException" 12 := ⟨[], [], (0, 9, 12, 13), "java/lang/IndexOutOfBoundsException", rfl, (fun z hz => by cases hz), by decide, by decide, u710, v719, rfl, by decide⟩
theorem tL_push {G : mG} {w : mH} {a o kc ks : Nat} {x1 : Int32} {t : Int32} {v : Int32} {Qb Q : mH → Prop} (hC : mC G mX10_push 9 kc ks [.ref a, .int x1] w (tpO "java/lang/IndexOutOfBoundsException" "" "" t (.int v) Qb Q)) (ha : hk w a = (10, 0)) (ht : t = 0 ∨ t = 1) (ho : ∀ u, Q u → hk u o = (17, 1)) : mCH G mL_push 10 kc ks [.ref a, .int x1, .ref o] w (fun r w' => r = .inl (some (.int t)) ∧ (t = 0 → ∃ u, Q u ∧ w' = sal u o 0 v.toInt64) ∧ (¬ t = 0 → ∃ (u : mH) (n : Nat), Qb u ∧ hN u ≤ n ∧ w' = snn u n)) := by
  refine mCH_of (by decide +kernel) (Nat.le_of_ble_eq_true rfl) rfl ?_
  refine mW_aload_n (j := 2) dL_push_0 rfl rfl ?_
  refine mW_iconst (v := 0) dL_push_1 (by decide) ?_
  refine mW_aload_n (j := 0) dL_push_2 rfl rfl ?_
  refine mW_iload_n (j := 1) dL_push_3 rfl rfl ?_
  refine mW_callVX (As := [.int x1]) (rest := [.int 0, .ref o]) (kc2 := 0) (ks2 := 0) dL_push_4 l_L_57 rfl ha rfl (by decide) hC (Nat.le_of_ble_eq_true rfl) (by decide) (Nat.add_zero _) (Nat.add_zero _) (fun E w' h => ?_) (fun v' w' h => ?_)
  · rcases ht with h0 | h0
    · exact absurd (h.1 h0).1 (fun q => by cases q)
    · subst h0
      obtain ⟨h1, u, nn, h2, h3, h4⟩ := h.2 (by decide)
      cases h1
      subst h4
      refine ⟨12, ca_L_push_1, fun q => ?_⟩
      refine mW_astore_n (lv2 := [(3, .ref q), (0, .ref a), (1, .int x1), (2, .ref o)]) dL_push_12 rfl (by decide) rfl ?_
      refine mW_iconst (v := 1) dL_push_13 (by decide) ?_
      exact mW_iret dL_push_14 rfl ⟨rfl, fun h0 => absurd h0 (by decide), fun _ => ⟨_, _, h2, h3, rfl⟩⟩
  · rcases ht with h0 | h0
    · obtain ⟨h1, h2⟩ := h.1 h0
      cases h1
      subst h0
      refine mW_i2l dL_push_7 ?_
      refine mW_lastJ dL_push_8 (ho _ h2) (by unfold vp_in; decide) (j := 0) (by decide) ?_
      refine mW_goto (tgt := 15) dL_push_9 (by decide) ?_
      refine mW_iconst (v := 0) dL_push_15 (by decide) ?_
      exact mW_iret dL_push_16 rfl ⟨rfl, fun _ => ⟨_, h2, rfl⟩, fun hn => absurd rfl hn⟩
    · exact absurd (h.2 (by rw [h0]; decide)).1 (fun q => by cases q)

abbrev mL_trace : mM := (yL_trace, cL_trace, 5, (some .int), [(0, 10, 13, 24), (0, 10, 17, 13), (0, 10, 21, 15)])
theorem u1365 : (Cond.code ⟨"LineFollowerBench", "trace", "(II)I"⟩ prog_1_method_17_code 3 (some .int) : Cond) ∈ mTs := mTs_in 1365 (by decide +kernel) (by decide +kernel)
theorem co_X10_trace : mCode mX10_trace := ⟨u1365, u70, by decide⟩
theorem u1362 : (Cond.methodLink "LineFollowerBenchLaw" 60 ⟨"LineFollowerBench", "trace", "(II)I"⟩ : Cond) ∈ mTs := mTs_in 1362 (by decide +kernel) (by decide +kernel)
theorem u1363 : (Cond.instanceMethod ⟨"LineFollowerBench", "trace", "(II)I"⟩ : Cond) ∈ mTs := mTs_in 1363 (by decide +kernel) (by decide +kernel)
theorem u1364 : (Cond.selects "LineFollowerBench" ⟨"LineFollowerBench", "trace", "(II)I"⟩ ⟨"LineFollowerBench", "trace", "(II)I"⟩ : Cond) ∈ mTs := mTs_in 1364 (by decide +kernel) (by decide +kernel)
theorem l_L_60 : mLinkV "LineFollowerBenchLaw" 60 2 mX10_trace := ⟨⟨by decide, by decide, by decide +kernel⟩, co_X10_trace, u1362, u1363, u1364⟩
theorem ca_L_trace_1 : mCatch mL_trace 5 "java/lang/IllegalStateException" 13 := ⟨[], [(0, 10, 17, 13), (0, 10, 21, 15)], (0, 10, 13, 24), "java/lang/IllegalStateException", rfl, (fun z hz => by cases hz), by decide, by decide, u828, v848, rfl, by decide⟩
theorem ca_L_trace_2 : mCatch mL_trace 5 "java/lang/IndexOutOfBoundsException" 17 := ⟨[(0, 10, 13, 24)], [(0, 10, 21, 15)], (0, 10, 17, 13), "java/lang/IndexOutOfBoundsException", rfl, (fun z hz => by cases List.mem_singleton.mp hz; exact ⟨by decide, _, u828, by decide⟩), by decide, by decide, u710, v719, rfl, by decide⟩
theorem ca_L_trace_3 : mCatch mL_trace 5 "java/lang/IllegalArgumentException" 21 := ⟨[(0, 10, 13, 24), (0, 10, 17, 13)], [], (0, 10, 21, 15), "java/lang/IllegalArgumentException", rfl, (fun z hz => by
  rcases List.mem_cons.mp hz with h | h
  · subst h; exact ⟨by decide, _, u828, by decide⟩
  · cases List.mem_singleton.mp h; exact ⟨by decide, _, u710, by decide⟩), by decide, by decide, u711, v793, rfl, by decide⟩
theorem tL_trace {G : mG} {w : mH} {a o kc ks : Nat} {x1 : Int32} {x2 : Int32} {t : Int32} {v : Int32} {Qb Q : mH → Prop} (hC : mC G mX10_trace 9 kc ks [.ref a, .int x1, .int x2] w (tpO "java/lang/IllegalStateException" "java/lang/IndexOutOfBoundsException" "java/lang/IllegalArgumentException" t (.int v) Qb Q)) (ha : hk w a = (10, 0)) (ht : t = 0 ∨ t = 1 ∨ t = 2 ∨ t = 3) (ho : ∀ u, Q u → hk u o = (17, 1)) : mCH G mL_trace 10 kc ks [.ref a, .int x1, .int x2, .ref o] w (fun r w' => r = .inl (some (.int t)) ∧ (t = 0 → ∃ u, Q u ∧ w' = sal u o 0 v.toInt64) ∧ (¬ t = 0 → ∃ (u : mH) (n : Nat), Qb u ∧ hN u ≤ n ∧ w' = snn u n)) := by
  refine mCH_of (by decide +kernel) (Nat.le_of_ble_eq_true rfl) rfl ?_
  refine mW_aload_n (j := 3) dL_trace_0 rfl rfl ?_
  refine mW_iconst (v := 0) dL_trace_1 (by decide) ?_
  refine mW_aload_n (j := 0) dL_trace_2 rfl rfl ?_
  refine mW_iload_n (j := 1) dL_trace_3 rfl rfl ?_
  refine mW_iload_n (j := 2) dL_trace_4 rfl rfl ?_
  refine mW_callVX (As := [.int x1, .int x2]) (rest := [.int 0, .ref o]) (kc2 := 0) (ks2 := 0) dL_trace_5 l_L_60 rfl ha rfl (by decide) hC (Nat.le_of_ble_eq_true rfl) (by decide) (Nat.add_zero _) (Nat.add_zero _) (fun E w' h => ?_) (fun v' w' h => ?_)
  · rcases ht with h0 | h0 | h0 | h0
    · exact absurd (h.1 h0).1 (fun q => by cases q)
    · subst h0
      obtain ⟨h1, u, nn, h2, h3, h4⟩ := h.2 (by decide)
      cases h1
      subst h4
      refine ⟨13, ca_L_trace_1, fun q => ?_⟩
      refine mW_astore (lv2 := [(4, .ref q), (0, .ref a), (1, .int x1), (2, .int x2), (3, .ref o)]) dL_trace_13 (by decide) rfl ?_
      refine mW_iconst (v := 1) dL_trace_15 (by decide) ?_
      exact mW_iret dL_trace_16 rfl ⟨rfl, fun h0 => absurd h0 (by decide), fun _ => ⟨_, _, h2, h3, rfl⟩⟩
    · subst h0
      obtain ⟨h1, u, nn, h2, h3, h4⟩ := h.2 (by decide)
      cases h1
      subst h4
      refine ⟨17, ca_L_trace_2, fun q => ?_⟩
      refine mW_astore (lv2 := [(4, .ref q), (0, .ref a), (1, .int x1), (2, .int x2), (3, .ref o)]) dL_trace_17 (by decide) rfl ?_
      refine mW_iconst (v := 2) dL_trace_19 (by decide) ?_
      exact mW_iret dL_trace_20 rfl ⟨rfl, fun h0 => absurd h0 (by decide), fun _ => ⟨_, _, h2, h3, rfl⟩⟩
    · subst h0
      obtain ⟨h1, u, nn, h2, h3, h4⟩ := h.2 (by decide)
      cases h1
      subst h4
      refine ⟨21, ca_L_trace_3, fun q => ?_⟩
      refine mW_astore (lv2 := [(4, .ref q), (0, .ref a), (1, .int x1), (2, .int x2), (3, .ref o)]) dL_trace_21 (by decide) rfl ?_
      refine mW_iconst (v := 3) dL_trace_23 (by decide) ?_
      exact mW_iret dL_trace_24 rfl ⟨rfl, fun h0 => absurd h0 (by decide), fun _ => ⟨_, _, h2, h3, rfl⟩⟩
  · rcases ht with h0 | h0 | h0 | h0
    · obtain ⟨h1, h2⟩ := h.1 h0
      cases h1
      subst h0
      refine mW_i2l dL_trace_8 ?_
      refine mW_lastJ dL_trace_9 (ho _ h2) (by unfold vp_in; decide) (j := 0) (by decide) ?_
      refine mW_goto (tgt := 25) dL_trace_10 (by decide) ?_
      refine mW_iconst (v := 0) dL_trace_25 (by decide) ?_
      exact mW_iret dL_trace_26 rfl ⟨rfl, fun _ => ⟨_, h2, rfl⟩, fun hn => absurd rfl hn⟩
    · exact absurd (h.2 (by rw [h0]; decide)).1 (fun q => by cases q)
    · exact absurd (h.2 (by rw [h0]; decide)).1 (fun q => by cases q)
    · exact absurd (h.2 (by rw [h0]; decide)).1 (fun q => by cases q)

abbrev mL_measure : mM := (yL_measure, cL_measure, 4, (some .int), [(0, 9, 12, 24), (0, 9, 15, 15)])
theorem u1379 : (Cond.code ⟨"LineFollowerBench", "measure", "(I)I"⟩ prog_1_method_18_code 2 (some .int) : Cond) ∈ mTs := mTs_in 1379 (by decide +kernel) (by decide +kernel)
theorem co_X10_measure : mCode mX10_measure := ⟨u1379, u70, by decide⟩
theorem u1376 : (Cond.methodLink "LineFollowerBenchLaw" 63 ⟨"LineFollowerBench", "measure", "(I)I"⟩ : Cond) ∈ mTs := mTs_in 1376 (by decide +kernel) (by decide +kernel)
theorem u1377 : (Cond.instanceMethod ⟨"LineFollowerBench", "measure", "(I)I"⟩ : Cond) ∈ mTs := mTs_in 1377 (by decide +kernel) (by decide +kernel)
theorem u1378 : (Cond.selects "LineFollowerBench" ⟨"LineFollowerBench", "measure", "(I)I"⟩ ⟨"LineFollowerBench", "measure", "(I)I"⟩ : Cond) ∈ mTs := mTs_in 1378 (by decide +kernel) (by decide +kernel)
theorem l_L_63 : mLinkV "LineFollowerBenchLaw" 63 1 mX10_measure := ⟨⟨by decide, by decide, by decide +kernel⟩, co_X10_measure, u1376, u1377, u1378⟩
theorem ca_L_measure_1 : mCatch mL_measure 4 "java/lang/IllegalStateException" 12 := ⟨[], [(0, 9, 15, 15)], (0, 9, 12, 24), "java/lang/IllegalStateException", rfl, (fun z hz => by cases hz), by decide, by decide, u828, v848, rfl, by decide⟩
theorem ca_L_measure_2 : mCatch mL_measure 4 "java/lang/IllegalArgumentException" 15 := ⟨[(0, 9, 12, 24)], [], (0, 9, 15, 15), "java/lang/IllegalArgumentException", rfl, (fun z hz => by cases List.mem_singleton.mp hz; exact ⟨by decide, _, u828, by decide⟩), by decide, by decide, u711, v793, rfl, by decide⟩
theorem tL_measure {G : mG} {w : mH} {a o kc ks : Nat} {x1 : Int32} {t : Int32} {v : Int32} {Qb Q : mH → Prop} (hC : mC G mX10_measure 9 kc ks [.ref a, .int x1] w (tpO "java/lang/IllegalStateException" "java/lang/IllegalArgumentException" "" t (.int v) Qb Q)) (ha : hk w a = (10, 0)) (ht : t = 0 ∨ t = 1 ∨ t = 2) (ho : ∀ u, Q u → hk u o = (17, 1)) : mCH G mL_measure 10 kc ks [.ref a, .int x1, .ref o] w (fun r w' => r = .inl (some (.int t)) ∧ (t = 0 → ∃ u, Q u ∧ w' = sal u o 0 v.toInt64) ∧ (¬ t = 0 → ∃ (u : mH) (n : Nat), Qb u ∧ hN u ≤ n ∧ w' = snn u n)) := by
  refine mCH_of (by decide +kernel) (Nat.le_of_ble_eq_true rfl) rfl ?_
  refine mW_aload_n (j := 2) dL_measure_0 rfl rfl ?_
  refine mW_iconst (v := 0) dL_measure_1 (by decide) ?_
  refine mW_aload_n (j := 0) dL_measure_2 rfl rfl ?_
  refine mW_iload_n (j := 1) dL_measure_3 rfl rfl ?_
  refine mW_callVX (As := [.int x1]) (rest := [.int 0, .ref o]) (kc2 := 0) (ks2 := 0) dL_measure_4 l_L_63 rfl ha rfl (by decide) hC (Nat.le_of_ble_eq_true rfl) (by decide) (Nat.add_zero _) (Nat.add_zero _) (fun E w' h => ?_) (fun v' w' h => ?_)
  · rcases ht with h0 | h0 | h0
    · exact absurd (h.1 h0).1 (fun q => by cases q)
    · subst h0
      obtain ⟨h1, u, nn, h2, h3, h4⟩ := h.2 (by decide)
      cases h1
      subst h4
      refine ⟨12, ca_L_measure_1, fun q => ?_⟩
      refine mW_astore_n (lv2 := [(3, .ref q), (0, .ref a), (1, .int x1), (2, .ref o)]) dL_measure_12 rfl (by decide) rfl ?_
      refine mW_iconst (v := 1) dL_measure_13 (by decide) ?_
      exact mW_iret dL_measure_14 rfl ⟨rfl, fun h0 => absurd h0 (by decide), fun _ => ⟨_, _, h2, h3, rfl⟩⟩
    · subst h0
      obtain ⟨h1, u, nn, h2, h3, h4⟩ := h.2 (by decide)
      cases h1
      subst h4
      refine ⟨15, ca_L_measure_2, fun q => ?_⟩
      refine mW_astore_n (lv2 := [(3, .ref q), (0, .ref a), (1, .int x1), (2, .ref o)]) dL_measure_15 rfl (by decide) rfl ?_
      refine mW_iconst (v := 2) dL_measure_16 (by decide) ?_
      exact mW_iret dL_measure_17 rfl ⟨rfl, fun h0 => absurd h0 (by decide), fun _ => ⟨_, _, h2, h3, rfl⟩⟩
  · rcases ht with h0 | h0 | h0
    · obtain ⟨h1, h2⟩ := h.1 h0
      cases h1
      subst h0
      refine mW_i2l dL_measure_7 ?_
      refine mW_lastJ dL_measure_8 (ho _ h2) (by unfold vp_in; decide) (j := 0) (by decide) ?_
      refine mW_goto (tgt := 18) dL_measure_9 (by decide) ?_
      refine mW_iconst (v := 0) dL_measure_18 (by decide) ?_
      exact mW_iret dL_measure_19 rfl ⟨rfl, fun _ => ⟨_, h2, rfl⟩, fun hn => absurd rfl hn⟩
    · exact absurd (h.2 (by rw [h0]; decide)).1 (fun q => by cases q)
    · exact absurd (h.2 (by rw [h0]; decide)).1 (fun q => by cases q)

abbrev mL_cost : mM := (yL_cost, cL_cost, 3, (some .int), [(0, 7, 10, 24)])
theorem u1400 : (Cond.code ⟨"LineFollowerBench", "cost", "()J"⟩ prog_1_method_19_code 1 (some .long) : Cond) ∈ mTs := mTs_in 1400 (by decide +kernel) (by decide +kernel)
theorem co_X10_cost : mCode mX10_cost := ⟨u1400, u70, by decide⟩
theorem u1397 : (Cond.methodLink "LineFollowerBenchLaw" 66 ⟨"LineFollowerBench", "cost", "()J"⟩ : Cond) ∈ mTs := mTs_in 1397 (by decide +kernel) (by decide +kernel)
theorem u1398 : (Cond.instanceMethod ⟨"LineFollowerBench", "cost", "()J"⟩ : Cond) ∈ mTs := mTs_in 1398 (by decide +kernel) (by decide +kernel)
theorem u1399 : (Cond.selects "LineFollowerBench" ⟨"LineFollowerBench", "cost", "()J"⟩ ⟨"LineFollowerBench", "cost", "()J"⟩ : Cond) ∈ mTs := mTs_in 1399 (by decide +kernel) (by decide +kernel)
theorem l_L_66 : mLinkV "LineFollowerBenchLaw" 66 0 mX10_cost := ⟨⟨by decide, by decide, by decide +kernel⟩, co_X10_cost, u1397, u1398, u1399⟩
theorem ca_L_cost_1 : mCatch mL_cost 3 "java/lang/IllegalStateException" 10 := ⟨[], [], (0, 7, 10, 24), "java/lang/IllegalStateException", rfl, (fun z hz => by cases hz), by decide, by decide, u828, v848, rfl, by decide⟩
theorem tL_cost {G : mG} {w : mH} {a o kc ks : Nat}  {t : Int32} {v : Int64} {Qb Q : mH → Prop} (hC : mC G mX10_cost 9 kc ks [.ref a] w (tpO "java/lang/IllegalStateException" "" "" t (.long v) Qb Q)) (ha : hk w a = (10, 0)) (ht : t = 0 ∨ t = 1) (ho : ∀ u, Q u → hk u o = (17, 1)) : mCH G mL_cost 10 kc ks [.ref a, .ref o] w (fun r w' => r = .inl (some (.int t)) ∧ (t = 0 → ∃ u, Q u ∧ w' = sal u o 0 v) ∧ (¬ t = 0 → ∃ (u : mH) (n : Nat), Qb u ∧ hN u ≤ n ∧ w' = snn u n)) := by
  refine mCH_of (by decide +kernel) (Nat.le_of_ble_eq_true rfl) rfl ?_
  refine mW_aload_n (j := 1) dL_cost_0 rfl rfl ?_
  refine mW_iconst (v := 0) dL_cost_1 (by decide) ?_
  refine mW_aload_n (j := 0) dL_cost_2 rfl rfl ?_
  refine mW_callVX (As := []) (rest := [.int 0, .ref o]) (kc2 := 0) (ks2 := 0) dL_cost_3 l_L_66 rfl ha rfl (by decide) hC (Nat.le_of_ble_eq_true rfl) (by decide) (Nat.add_zero _) (Nat.add_zero _) (fun E w' h => ?_) (fun v' w' h => ?_)
  · rcases ht with h0 | h0
    · exact absurd (h.1 h0).1 (fun q => by cases q)
    · subst h0
      obtain ⟨h1, u, nn, h2, h3, h4⟩ := h.2 (by decide)
      cases h1
      subst h4
      refine ⟨10, ca_L_cost_1, fun q => ?_⟩
      refine mW_astore_n (lv2 := [(2, .ref q), (0, .ref a), (1, .ref o)]) dL_cost_10 rfl (by decide) rfl ?_
      refine mW_iconst (v := 1) dL_cost_11 (by decide) ?_
      exact mW_iret dL_cost_12 rfl ⟨rfl, fun h0 => absurd h0 (by decide), fun _ => ⟨_, _, h2, h3, rfl⟩⟩
  · rcases ht with h0 | h0
    · obtain ⟨h1, h2⟩ := h.1 h0
      cases h1
      subst h0
      refine mW_lastJ dL_cost_6 (ho _ h2) (by unfold vp_in; decide) (j := 0) (by decide) ?_
      refine mW_goto (tgt := 13) dL_cost_7 (by decide) ?_
      refine mW_iconst (v := 0) dL_cost_13 (by decide) ?_
      exact mW_iret dL_cost_14 rfl ⟨rfl, fun _ => ⟨_, h2, rfl⟩, fun hn => absurd rfl hn⟩
    · exact absurd (h.2 (by rw [h0]; decide)).1 (fun q => by cases q)

abbrev mL_reason : mM := (yL_reason, cL_reason, 4, (some .int), [(0, 9, 12, 24), (0, 9, 15, 13)])
theorem u1408 : (Cond.code ⟨"LineFollowerBench", "reason", "(I)I"⟩ prog_1_method_20_code 5 (some .int) : Cond) ∈ mTs := mTs_in 1408 (by decide +kernel) (by decide +kernel)
theorem co_X10_reason : mCode mX10_reason := ⟨u1408, u70, by decide⟩
theorem u1405 : (Cond.methodLink "LineFollowerBenchLaw" 70 ⟨"LineFollowerBench", "reason", "(I)I"⟩ : Cond) ∈ mTs := mTs_in 1405 (by decide +kernel) (by decide +kernel)
theorem u1406 : (Cond.instanceMethod ⟨"LineFollowerBench", "reason", "(I)I"⟩ : Cond) ∈ mTs := mTs_in 1406 (by decide +kernel) (by decide +kernel)
theorem u1407 : (Cond.selects "LineFollowerBench" ⟨"LineFollowerBench", "reason", "(I)I"⟩ ⟨"LineFollowerBench", "reason", "(I)I"⟩ : Cond) ∈ mTs := mTs_in 1407 (by decide +kernel) (by decide +kernel)
theorem l_L_70 : mLinkV "LineFollowerBenchLaw" 70 1 mX10_reason := ⟨⟨by decide, by decide, by decide +kernel⟩, co_X10_reason, u1405, u1406, u1407⟩
theorem ca_L_reason_1 : mCatch mL_reason 4 "java/lang/IllegalStateException" 12 := ⟨[], [(0, 9, 15, 13)], (0, 9, 12, 24), "java/lang/IllegalStateException", rfl, (fun z hz => by cases hz), by decide, by decide, u828, v848, rfl, by decide⟩
theorem ca_L_reason_2 : mCatch mL_reason 4 "java/lang/IndexOutOfBoundsException" 15 := ⟨[(0, 9, 12, 24)], [], (0, 9, 15, 13), "java/lang/IndexOutOfBoundsException", rfl, (fun z hz => by cases List.mem_singleton.mp hz; exact ⟨by decide, _, u828, by decide⟩), by decide, by decide, u710, v719, rfl, by decide⟩
theorem tL_reason {G : mG} {w : mH} {a o kc ks : Nat} {x1 : Int32} {t : Int32} {v : Int32} {Qb Q : mH → Prop} (hC : mC G mX10_reason 9 kc ks [.ref a, .int x1] w (tpO "java/lang/IllegalStateException" "java/lang/IndexOutOfBoundsException" "" t (.int v) Qb Q)) (ha : hk w a = (10, 0)) (ht : t = 0 ∨ t = 1 ∨ t = 2) (ho : ∀ u, Q u → hk u o = (17, 1)) : mCH G mL_reason 10 kc ks [.ref a, .int x1, .ref o] w (fun r w' => r = .inl (some (.int t)) ∧ (t = 0 → ∃ u, Q u ∧ w' = sal u o 0 v.toInt64) ∧ (¬ t = 0 → ∃ (u : mH) (n : Nat), Qb u ∧ hN u ≤ n ∧ w' = snn u n)) := by
  refine mCH_of (by decide +kernel) (Nat.le_of_ble_eq_true rfl) rfl ?_
  refine mW_aload_n (j := 2) dL_reason_0 rfl rfl ?_
  refine mW_iconst (v := 0) dL_reason_1 (by decide) ?_
  refine mW_aload_n (j := 0) dL_reason_2 rfl rfl ?_
  refine mW_iload_n (j := 1) dL_reason_3 rfl rfl ?_
  refine mW_callVX (As := [.int x1]) (rest := [.int 0, .ref o]) (kc2 := 0) (ks2 := 0) dL_reason_4 l_L_70 rfl ha rfl (by decide) hC (Nat.le_of_ble_eq_true rfl) (by decide) (Nat.add_zero _) (Nat.add_zero _) (fun E w' h => ?_) (fun v' w' h => ?_)
  · rcases ht with h0 | h0 | h0
    · exact absurd (h.1 h0).1 (fun q => by cases q)
    · subst h0
      obtain ⟨h1, u, nn, h2, h3, h4⟩ := h.2 (by decide)
      cases h1
      subst h4
      refine ⟨12, ca_L_reason_1, fun q => ?_⟩
      refine mW_astore_n (lv2 := [(3, .ref q), (0, .ref a), (1, .int x1), (2, .ref o)]) dL_reason_12 rfl (by decide) rfl ?_
      refine mW_iconst (v := 1) dL_reason_13 (by decide) ?_
      exact mW_iret dL_reason_14 rfl ⟨rfl, fun h0 => absurd h0 (by decide), fun _ => ⟨_, _, h2, h3, rfl⟩⟩
    · subst h0
      obtain ⟨h1, u, nn, h2, h3, h4⟩ := h.2 (by decide)
      cases h1
      subst h4
      refine ⟨15, ca_L_reason_2, fun q => ?_⟩
      refine mW_astore_n (lv2 := [(3, .ref q), (0, .ref a), (1, .int x1), (2, .ref o)]) dL_reason_15 rfl (by decide) rfl ?_
      refine mW_iconst (v := 2) dL_reason_16 (by decide) ?_
      exact mW_iret dL_reason_17 rfl ⟨rfl, fun h0 => absurd h0 (by decide), fun _ => ⟨_, _, h2, h3, rfl⟩⟩
  · rcases ht with h0 | h0 | h0
    · obtain ⟨h1, h2⟩ := h.1 h0
      cases h1
      subst h0
      refine mW_i2l dL_reason_7 ?_
      refine mW_lastJ dL_reason_8 (ho _ h2) (by unfold vp_in; decide) (j := 0) (by decide) ?_
      refine mW_goto (tgt := 18) dL_reason_9 (by decide) ?_
      refine mW_iconst (v := 0) dL_reason_18 (by decide) ?_
      exact mW_iret dL_reason_19 rfl ⟨rfl, fun _ => ⟨_, h2, rfl⟩, fun hn => absurd rfl hn⟩
    · exact absurd (h.2 (by rw [h0]; decide)).1 (fun q => by cases q)
    · exact absurd (h.2 (by rw [h0]; decide)).1 (fun q => by cases q)

abbrev mL_meanSquareBits : mM := (yL_meanSquareBits, cL_meanSquareBits, 3, (some .int), [(0, 7, 10, 24)])
theorem u1417 : (Cond.code ⟨"LineFollowerBench", "meanSquareBits", "()J"⟩ prog_1_method_21_code 1 (some .long) : Cond) ∈ mTs := mTs_in 1417 (by decide +kernel) (by decide +kernel)
theorem co_X10_meanSquareBits : mCode mX10_meanSquareBits := ⟨u1417, u70, by decide⟩
theorem u1414 : (Cond.methodLink "LineFollowerBenchLaw" 73 ⟨"LineFollowerBench", "meanSquareBits", "()J"⟩ : Cond) ∈ mTs := mTs_in 1414 (by decide +kernel) (by decide +kernel)
theorem u1415 : (Cond.instanceMethod ⟨"LineFollowerBench", "meanSquareBits", "()J"⟩ : Cond) ∈ mTs := mTs_in 1415 (by decide +kernel) (by decide +kernel)
theorem u1416 : (Cond.selects "LineFollowerBench" ⟨"LineFollowerBench", "meanSquareBits", "()J"⟩ ⟨"LineFollowerBench", "meanSquareBits", "()J"⟩ : Cond) ∈ mTs := mTs_in 1416 (by decide +kernel) (by decide +kernel)
theorem l_L_73 : mLinkV "LineFollowerBenchLaw" 73 0 mX10_meanSquareBits := ⟨⟨by decide, by decide, by decide +kernel⟩, co_X10_meanSquareBits, u1414, u1415, u1416⟩
theorem ca_L_meanSquareBits_1 : mCatch mL_meanSquareBits 3 "java/lang/IllegalStateException" 10 := ⟨[], [], (0, 7, 10, 24), "java/lang/IllegalStateException", rfl, (fun z hz => by cases hz), by decide, by decide, u828, v848, rfl, by decide⟩
theorem tL_meanSquareBits {G : mG} {w : mH} {a o kc ks : Nat}  {t : Int32} {v : Int64} {Qb Q : mH → Prop} (hC : mC G mX10_meanSquareBits 9 kc ks [.ref a] w (tpO "java/lang/IllegalStateException" "" "" t (.long v) Qb Q)) (ha : hk w a = (10, 0)) (ht : t = 0 ∨ t = 1) (ho : ∀ u, Q u → hk u o = (17, 1)) : mCH G mL_meanSquareBits 10 kc ks [.ref a, .ref o] w (fun r w' => r = .inl (some (.int t)) ∧ (t = 0 → ∃ u, Q u ∧ w' = sal u o 0 v) ∧ (¬ t = 0 → ∃ (u : mH) (n : Nat), Qb u ∧ hN u ≤ n ∧ w' = snn u n)) := by
  refine mCH_of (by decide +kernel) (Nat.le_of_ble_eq_true rfl) rfl ?_
  refine mW_aload_n (j := 1) dL_meanSquareBits_0 rfl rfl ?_
  refine mW_iconst (v := 0) dL_meanSquareBits_1 (by decide) ?_
  refine mW_aload_n (j := 0) dL_meanSquareBits_2 rfl rfl ?_
  refine mW_callVX (As := []) (rest := [.int 0, .ref o]) (kc2 := 0) (ks2 := 0) dL_meanSquareBits_3 l_L_73 rfl ha rfl (by decide) hC (Nat.le_of_ble_eq_true rfl) (by decide) (Nat.add_zero _) (Nat.add_zero _) (fun E w' h => ?_) (fun v' w' h => ?_)
  · rcases ht with h0 | h0
    · exact absurd (h.1 h0).1 (fun q => by cases q)
    · subst h0
      obtain ⟨h1, u, nn, h2, h3, h4⟩ := h.2 (by decide)
      cases h1
      subst h4
      refine ⟨10, ca_L_meanSquareBits_1, fun q => ?_⟩
      refine mW_astore_n (lv2 := [(2, .ref q), (0, .ref a), (1, .ref o)]) dL_meanSquareBits_10 rfl (by decide) rfl ?_
      refine mW_iconst (v := 1) dL_meanSquareBits_11 (by decide) ?_
      exact mW_iret dL_meanSquareBits_12 rfl ⟨rfl, fun h0 => absurd h0 (by decide), fun _ => ⟨_, _, h2, h3, rfl⟩⟩
  · rcases ht with h0 | h0
    · obtain ⟨h1, h2⟩ := h.1 h0
      cases h1
      subst h0
      refine mW_lastJ dL_meanSquareBits_6 (ho _ h2) (by unfold vp_in; decide) (j := 0) (by decide) ?_
      refine mW_goto (tgt := 13) dL_meanSquareBits_7 (by decide) ?_
      refine mW_iconst (v := 0) dL_meanSquareBits_13 (by decide) ?_
      exact mW_iret dL_meanSquareBits_14 rfl ⟨rfl, fun _ => ⟨_, h2, rfl⟩, fun hn => absurd rfl hn⟩
    · exact absurd (h.2 (by rw [h0]; decide)).1 (fun q => by cases q)

abbrev mL_saturatedBits : mM := (yL_saturatedBits, cL_saturatedBits, 3, (some .int), [(0, 8, 11, 24)])
theorem u1434 : (Cond.code ⟨"LineFollowerBench", "saturatedBits", "()I"⟩ prog_1_method_22_code 1 (some .int) : Cond) ∈ mTs := mTs_in 1434 (by decide +kernel) (by decide +kernel)
theorem co_X10_saturatedBits : mCode mX10_saturatedBits := ⟨u1434, u70, by decide⟩
theorem u1431 : (Cond.methodLink "LineFollowerBenchLaw" 76 ⟨"LineFollowerBench", "saturatedBits", "()I"⟩ : Cond) ∈ mTs := mTs_in 1431 (by decide +kernel) (by decide +kernel)
theorem u1432 : (Cond.instanceMethod ⟨"LineFollowerBench", "saturatedBits", "()I"⟩ : Cond) ∈ mTs := mTs_in 1432 (by decide +kernel) (by decide +kernel)
theorem u1433 : (Cond.selects "LineFollowerBench" ⟨"LineFollowerBench", "saturatedBits", "()I"⟩ ⟨"LineFollowerBench", "saturatedBits", "()I"⟩ : Cond) ∈ mTs := mTs_in 1433 (by decide +kernel) (by decide +kernel)
theorem l_L_76 : mLinkV "LineFollowerBenchLaw" 76 0 mX10_saturatedBits := ⟨⟨by decide, by decide, by decide +kernel⟩, co_X10_saturatedBits, u1431, u1432, u1433⟩
theorem ca_L_saturatedBits_1 : mCatch mL_saturatedBits 3 "java/lang/IllegalStateException" 11 := ⟨[], [], (0, 8, 11, 24), "java/lang/IllegalStateException", rfl, (fun z hz => by cases hz), by decide, by decide, u828, v848, rfl, by decide⟩
theorem tL_saturatedBits {G : mG} {w : mH} {a o kc ks : Nat}  {t : Int32} {v : Int32} {Qb Q : mH → Prop} (hC : mC G mX10_saturatedBits 9 kc ks [.ref a] w (tpO "java/lang/IllegalStateException" "" "" t (.int v) Qb Q)) (ha : hk w a = (10, 0)) (ht : t = 0 ∨ t = 1) (ho : ∀ u, Q u → hk u o = (17, 1)) : mCH G mL_saturatedBits 10 kc ks [.ref a, .ref o] w (fun r w' => r = .inl (some (.int t)) ∧ (t = 0 → ∃ u, Q u ∧ w' = sal u o 0 v.toInt64) ∧ (¬ t = 0 → ∃ (u : mH) (n : Nat), Qb u ∧ hN u ≤ n ∧ w' = snn u n)) := by
  refine mCH_of (by decide +kernel) (Nat.le_of_ble_eq_true rfl) rfl ?_
  refine mW_aload_n (j := 1) dL_saturatedBits_0 rfl rfl ?_
  refine mW_iconst (v := 0) dL_saturatedBits_1 (by decide) ?_
  refine mW_aload_n (j := 0) dL_saturatedBits_2 rfl rfl ?_
  refine mW_callVX (As := []) (rest := [.int 0, .ref o]) (kc2 := 0) (ks2 := 0) dL_saturatedBits_3 l_L_76 rfl ha rfl (by decide) hC (Nat.le_of_ble_eq_true rfl) (by decide) (Nat.add_zero _) (Nat.add_zero _) (fun E w' h => ?_) (fun v' w' h => ?_)
  · rcases ht with h0 | h0
    · exact absurd (h.1 h0).1 (fun q => by cases q)
    · subst h0
      obtain ⟨h1, u, nn, h2, h3, h4⟩ := h.2 (by decide)
      cases h1
      subst h4
      refine ⟨11, ca_L_saturatedBits_1, fun q => ?_⟩
      refine mW_astore_n (lv2 := [(2, .ref q), (0, .ref a), (1, .ref o)]) dL_saturatedBits_11 rfl (by decide) rfl ?_
      refine mW_iconst (v := 1) dL_saturatedBits_12 (by decide) ?_
      exact mW_iret dL_saturatedBits_13 rfl ⟨rfl, fun h0 => absurd h0 (by decide), fun _ => ⟨_, _, h2, h3, rfl⟩⟩
  · rcases ht with h0 | h0
    · obtain ⟨h1, h2⟩ := h.1 h0
      cases h1
      subst h0
      refine mW_i2l dL_saturatedBits_6 ?_
      refine mW_lastJ dL_saturatedBits_7 (ho _ h2) (by unfold vp_in; decide) (j := 0) (by decide) ?_
      refine mW_goto (tgt := 14) dL_saturatedBits_8 (by decide) ?_
      refine mW_iconst (v := 0) dL_saturatedBits_14 (by decide) ?_
      exact mW_iret dL_saturatedBits_15 rfl ⟨rfl, fun _ => ⟨_, h2, rfl⟩, fun hn => absurd rfl hn⟩
    · exact absurd (h.2 (by rw [h0]; decide)).1 (fun q => by cases q)

abbrev mL_hold : mM := (yL_hold, cL_hold, 3, (some .int), [(0, 8, 11, 24)])
theorem u1449 : (Cond.code ⟨"LineFollowerBench", "hold", "()I"⟩ prog_1_method_23_code 1 (some .int) : Cond) ∈ mTs := mTs_in 1449 (by decide +kernel) (by decide +kernel)
theorem co_X10_hold : mCode mX10_hold := ⟨u1449, u70, by decide⟩
theorem u1446 : (Cond.methodLink "LineFollowerBenchLaw" 79 ⟨"LineFollowerBench", "hold", "()I"⟩ : Cond) ∈ mTs := mTs_in 1446 (by decide +kernel) (by decide +kernel)
theorem u1447 : (Cond.instanceMethod ⟨"LineFollowerBench", "hold", "()I"⟩ : Cond) ∈ mTs := mTs_in 1447 (by decide +kernel) (by decide +kernel)
theorem u1448 : (Cond.selects "LineFollowerBench" ⟨"LineFollowerBench", "hold", "()I"⟩ ⟨"LineFollowerBench", "hold", "()I"⟩ : Cond) ∈ mTs := mTs_in 1448 (by decide +kernel) (by decide +kernel)
theorem l_L_79 : mLinkV "LineFollowerBenchLaw" 79 0 mX10_hold := ⟨⟨by decide, by decide, by decide +kernel⟩, co_X10_hold, u1446, u1447, u1448⟩
theorem ca_L_hold_1 : mCatch mL_hold 3 "java/lang/IllegalStateException" 11 := ⟨[], [], (0, 8, 11, 24), "java/lang/IllegalStateException", rfl, (fun z hz => by cases hz), by decide, by decide, u828, v848, rfl, by decide⟩
theorem tL_hold {G : mG} {w : mH} {a o kc ks : Nat}  {t : Int32} {v : Int32} {Qb Q : mH → Prop} (hC : mC G mX10_hold 9 kc ks [.ref a] w (tpO "java/lang/IllegalStateException" "" "" t (.int v) Qb Q)) (ha : hk w a = (10, 0)) (ht : t = 0 ∨ t = 1) (ho : ∀ u, Q u → hk u o = (17, 1)) : mCH G mL_hold 10 kc ks [.ref a, .ref o] w (fun r w' => r = .inl (some (.int t)) ∧ (t = 0 → ∃ u, Q u ∧ w' = sal u o 0 v.toInt64) ∧ (¬ t = 0 → ∃ (u : mH) (n : Nat), Qb u ∧ hN u ≤ n ∧ w' = snn u n)) := by
  refine mCH_of (by decide +kernel) (Nat.le_of_ble_eq_true rfl) rfl ?_
  refine mW_aload_n (j := 1) dL_hold_0 rfl rfl ?_
  refine mW_iconst (v := 0) dL_hold_1 (by decide) ?_
  refine mW_aload_n (j := 0) dL_hold_2 rfl rfl ?_
  refine mW_callVX (As := []) (rest := [.int 0, .ref o]) (kc2 := 0) (ks2 := 0) dL_hold_3 l_L_79 rfl ha rfl (by decide) hC (Nat.le_of_ble_eq_true rfl) (by decide) (Nat.add_zero _) (Nat.add_zero _) (fun E w' h => ?_) (fun v' w' h => ?_)
  · rcases ht with h0 | h0
    · exact absurd (h.1 h0).1 (fun q => by cases q)
    · subst h0
      obtain ⟨h1, u, nn, h2, h3, h4⟩ := h.2 (by decide)
      cases h1
      subst h4
      refine ⟨11, ca_L_hold_1, fun q => ?_⟩
      refine mW_astore_n (lv2 := [(2, .ref q), (0, .ref a), (1, .ref o)]) dL_hold_11 rfl (by decide) rfl ?_
      refine mW_iconst (v := 1) dL_hold_12 (by decide) ?_
      exact mW_iret dL_hold_13 rfl ⟨rfl, fun h0 => absurd h0 (by decide), fun _ => ⟨_, _, h2, h3, rfl⟩⟩
  · rcases ht with h0 | h0
    · obtain ⟨h1, h2⟩ := h.1 h0
      cases h1
      subst h0
      refine mW_i2l dL_hold_6 ?_
      refine mW_lastJ dL_hold_7 (ho _ h2) (by unfold vp_in; decide) (j := 0) (by decide) ?_
      refine mW_goto (tgt := 14) dL_hold_8 (by decide) ?_
      refine mW_iconst (v := 0) dL_hold_14 (by decide) ?_
      exact mW_iret dL_hold_15 rfl ⟨rfl, fun _ => ⟨_, h2, rfl⟩, fun hn => absurd rfl hn⟩
    · exact absurd (h.2 (by rw [h0]; decide)).1 (fun q => by cases q)

abbrev mL_compare : mM := (yL_compare, cL_compare, 4, (some .int), [(0, 9, 12, 24), (0, 9, 15, 15)])
theorem u1461 : (Cond.code ⟨"LineFollowerBench", "compare", "(I)I"⟩ prog_1_method_24_code 2 (some .int) : Cond) ∈ mTs := mTs_in 1461 (by decide +kernel) (by decide +kernel)
theorem co_X10_compare : mCode mX10_compare := ⟨u1461, u70, by decide⟩
theorem u1458 : (Cond.methodLink "LineFollowerBenchLaw" 82 ⟨"LineFollowerBench", "compare", "(I)I"⟩ : Cond) ∈ mTs := mTs_in 1458 (by decide +kernel) (by decide +kernel)
theorem u1459 : (Cond.instanceMethod ⟨"LineFollowerBench", "compare", "(I)I"⟩ : Cond) ∈ mTs := mTs_in 1459 (by decide +kernel) (by decide +kernel)
theorem u1460 : (Cond.selects "LineFollowerBench" ⟨"LineFollowerBench", "compare", "(I)I"⟩ ⟨"LineFollowerBench", "compare", "(I)I"⟩ : Cond) ∈ mTs := mTs_in 1460 (by decide +kernel) (by decide +kernel)
theorem l_L_82 : mLinkV "LineFollowerBenchLaw" 82 1 mX10_compare := ⟨⟨by decide, by decide, by decide +kernel⟩, co_X10_compare, u1458, u1459, u1460⟩
theorem ca_L_compare_1 : mCatch mL_compare 4 "java/lang/IllegalStateException" 12 := ⟨[], [(0, 9, 15, 15)], (0, 9, 12, 24), "java/lang/IllegalStateException", rfl, (fun z hz => by cases hz), by decide, by decide, u828, v848, rfl, by decide⟩
theorem ca_L_compare_2 : mCatch mL_compare 4 "java/lang/IllegalArgumentException" 15 := ⟨[(0, 9, 12, 24)], [], (0, 9, 15, 15), "java/lang/IllegalArgumentException", rfl, (fun z hz => by cases List.mem_singleton.mp hz; exact ⟨by decide, _, u828, by decide⟩), by decide, by decide, u711, v793, rfl, by decide⟩
theorem tL_compare {G : mG} {w : mH} {a o kc ks : Nat} {x1 : Int32} {t : Int32} {v : Int32} {Qb Q : mH → Prop} (hC : mC G mX10_compare 9 kc ks [.ref a, .int x1] w (tpO "java/lang/IllegalStateException" "java/lang/IllegalArgumentException" "" t (.int v) Qb Q)) (ha : hk w a = (10, 0)) (ht : t = 0 ∨ t = 1 ∨ t = 2) (ho : ∀ u, Q u → hk u o = (17, 1)) : mCH G mL_compare 10 kc ks [.ref a, .int x1, .ref o] w (fun r w' => r = .inl (some (.int t)) ∧ (t = 0 → ∃ u, Q u ∧ w' = sal u o 0 v.toInt64) ∧ (¬ t = 0 → ∃ (u : mH) (n : Nat), Qb u ∧ hN u ≤ n ∧ w' = snn u n)) := by
  refine mCH_of (by decide +kernel) (Nat.le_of_ble_eq_true rfl) rfl ?_
  refine mW_aload_n (j := 2) dL_compare_0 rfl rfl ?_
  refine mW_iconst (v := 0) dL_compare_1 (by decide) ?_
  refine mW_aload_n (j := 0) dL_compare_2 rfl rfl ?_
  refine mW_iload_n (j := 1) dL_compare_3 rfl rfl ?_
  refine mW_callVX (As := [.int x1]) (rest := [.int 0, .ref o]) (kc2 := 0) (ks2 := 0) dL_compare_4 l_L_82 rfl ha rfl (by decide) hC (Nat.le_of_ble_eq_true rfl) (by decide) (Nat.add_zero _) (Nat.add_zero _) (fun E w' h => ?_) (fun v' w' h => ?_)
  · rcases ht with h0 | h0 | h0
    · exact absurd (h.1 h0).1 (fun q => by cases q)
    · subst h0
      obtain ⟨h1, u, nn, h2, h3, h4⟩ := h.2 (by decide)
      cases h1
      subst h4
      refine ⟨12, ca_L_compare_1, fun q => ?_⟩
      refine mW_astore_n (lv2 := [(3, .ref q), (0, .ref a), (1, .int x1), (2, .ref o)]) dL_compare_12 rfl (by decide) rfl ?_
      refine mW_iconst (v := 1) dL_compare_13 (by decide) ?_
      exact mW_iret dL_compare_14 rfl ⟨rfl, fun h0 => absurd h0 (by decide), fun _ => ⟨_, _, h2, h3, rfl⟩⟩
    · subst h0
      obtain ⟨h1, u, nn, h2, h3, h4⟩ := h.2 (by decide)
      cases h1
      subst h4
      refine ⟨15, ca_L_compare_2, fun q => ?_⟩
      refine mW_astore_n (lv2 := [(3, .ref q), (0, .ref a), (1, .int x1), (2, .ref o)]) dL_compare_15 rfl (by decide) rfl ?_
      refine mW_iconst (v := 2) dL_compare_16 (by decide) ?_
      exact mW_iret dL_compare_17 rfl ⟨rfl, fun h0 => absurd h0 (by decide), fun _ => ⟨_, _, h2, h3, rfl⟩⟩
  · rcases ht with h0 | h0 | h0
    · obtain ⟨h1, h2⟩ := h.1 h0
      cases h1
      subst h0
      refine mW_i2l dL_compare_7 ?_
      refine mW_lastJ dL_compare_8 (ho _ h2) (by unfold vp_in; decide) (j := 0) (by decide) ?_
      refine mW_goto (tgt := 18) dL_compare_9 (by decide) ?_
      refine mW_iconst (v := 0) dL_compare_18 (by decide) ?_
      exact mW_iret dL_compare_19 rfl ⟨rfl, fun _ => ⟨_, h2, rfl⟩, fun hn => absurd rfl hn⟩
    · exact absurd (h.2 (by rw [h0]; decide)).1 (fun q => by cases q)
    · exact absurd (h.2 (by rw [h0]; decide)).1 (fun q => by cases q)

abbrev mL_found : mM := (yL_found, cL_found, 5, (some .int), [(0, 10, 13, 24), (0, 10, 17, 15)])
theorem u1482 : (Cond.code ⟨"LineFollowerBench", "found", "(ZI)I"⟩ prog_1_method_27_code 4 (some .int) : Cond) ∈ mTs := mTs_in 1482 (by decide +kernel) (by decide +kernel)
theorem co_X10_found : mCode mX10_found := ⟨u1482, u70, by decide⟩
theorem u1479 : (Cond.methodLink "LineFollowerBenchLaw" 85 ⟨"LineFollowerBench", "found", "(ZI)I"⟩ : Cond) ∈ mTs := mTs_in 1479 (by decide +kernel) (by decide +kernel)
theorem u1480 : (Cond.instanceMethod ⟨"LineFollowerBench", "found", "(ZI)I"⟩ : Cond) ∈ mTs := mTs_in 1480 (by decide +kernel) (by decide +kernel)
theorem u1481 : (Cond.selects "LineFollowerBench" ⟨"LineFollowerBench", "found", "(ZI)I"⟩ ⟨"LineFollowerBench", "found", "(ZI)I"⟩ : Cond) ∈ mTs := mTs_in 1481 (by decide +kernel) (by decide +kernel)
theorem l_L_85 : mLinkV "LineFollowerBenchLaw" 85 2 mX10_found := ⟨⟨by decide, by decide, by decide +kernel⟩, co_X10_found, u1479, u1480, u1481⟩
theorem ca_L_found_1 : mCatch mL_found 5 "java/lang/IllegalStateException" 13 := ⟨[], [(0, 10, 17, 15)], (0, 10, 13, 24), "java/lang/IllegalStateException", rfl, (fun z hz => by cases hz), by decide, by decide, u828, v848, rfl, by decide⟩
theorem ca_L_found_2 : mCatch mL_found 5 "java/lang/IllegalArgumentException" 17 := ⟨[(0, 10, 13, 24)], [], (0, 10, 17, 15), "java/lang/IllegalArgumentException", rfl, (fun z hz => by cases List.mem_singleton.mp hz; exact ⟨by decide, _, u828, by decide⟩), by decide, by decide, u711, v793, rfl, by decide⟩
theorem tL_found {G : mG} {w : mH} {a o kc ks : Nat} {x1 : Int32} {x2 : Int32} {t : Int32} {v : Int32} {Qb Q : mH → Prop} (hC : mC G mX10_found 9 kc ks [.ref a, .int x1, .int x2] w (tpO "java/lang/IllegalStateException" "java/lang/IllegalArgumentException" "" t (.int v) Qb Q)) (ha : hk w a = (10, 0)) (ht : t = 0 ∨ t = 1 ∨ t = 2) (ho : ∀ u, Q u → hk u o = (17, 1)) : mCH G mL_found 10 kc ks [.ref a, .int x1, .int x2, .ref o] w (fun r w' => r = .inl (some (.int t)) ∧ (t = 0 → ∃ u, Q u ∧ w' = sal u o 0 v.toInt64) ∧ (¬ t = 0 → ∃ (u : mH) (n : Nat), Qb u ∧ hN u ≤ n ∧ w' = snn u n)) := by
  refine mCH_of (by decide +kernel) (Nat.le_of_ble_eq_true rfl) rfl ?_
  refine mW_aload_n (j := 3) dL_found_0 rfl rfl ?_
  refine mW_iconst (v := 0) dL_found_1 (by decide) ?_
  refine mW_aload_n (j := 0) dL_found_2 rfl rfl ?_
  refine mW_iload_n (j := 1) dL_found_3 rfl rfl ?_
  refine mW_iload_n (j := 2) dL_found_4 rfl rfl ?_
  refine mW_callVX (As := [.int x1, .int x2]) (rest := [.int 0, .ref o]) (kc2 := 0) (ks2 := 0) dL_found_5 l_L_85 rfl ha rfl (by decide) hC (Nat.le_of_ble_eq_true rfl) (by decide) (Nat.add_zero _) (Nat.add_zero _) (fun E w' h => ?_) (fun v' w' h => ?_)
  · rcases ht with h0 | h0 | h0
    · exact absurd (h.1 h0).1 (fun q => by cases q)
    · subst h0
      obtain ⟨h1, u, nn, h2, h3, h4⟩ := h.2 (by decide)
      cases h1
      subst h4
      refine ⟨13, ca_L_found_1, fun q => ?_⟩
      refine mW_astore (lv2 := [(4, .ref q), (0, .ref a), (1, .int x1), (2, .int x2), (3, .ref o)]) dL_found_13 (by decide) rfl ?_
      refine mW_iconst (v := 1) dL_found_15 (by decide) ?_
      exact mW_iret dL_found_16 rfl ⟨rfl, fun h0 => absurd h0 (by decide), fun _ => ⟨_, _, h2, h3, rfl⟩⟩
    · subst h0
      obtain ⟨h1, u, nn, h2, h3, h4⟩ := h.2 (by decide)
      cases h1
      subst h4
      refine ⟨17, ca_L_found_2, fun q => ?_⟩
      refine mW_astore (lv2 := [(4, .ref q), (0, .ref a), (1, .int x1), (2, .int x2), (3, .ref o)]) dL_found_17 (by decide) rfl ?_
      refine mW_iconst (v := 2) dL_found_19 (by decide) ?_
      exact mW_iret dL_found_20 rfl ⟨rfl, fun h0 => absurd h0 (by decide), fun _ => ⟨_, _, h2, h3, rfl⟩⟩
  · rcases ht with h0 | h0 | h0
    · obtain ⟨h1, h2⟩ := h.1 h0
      cases h1
      subst h0
      refine mW_i2l dL_found_8 ?_
      refine mW_lastJ dL_found_9 (ho _ h2) (by unfold vp_in; decide) (j := 0) (by decide) ?_
      refine mW_goto (tgt := 21) dL_found_10 (by decide) ?_
      refine mW_iconst (v := 0) dL_found_21 (by decide) ?_
      exact mW_iret dL_found_22 rfl ⟨rfl, fun _ => ⟨_, h2, rfl⟩, fun hn => absurd rfl hn⟩
    · exact absurd (h.2 (by rw [h0]; decide)).1 (fun q => by cases q)
    · exact absurd (h.2 (by rw [h0]; decide)).1 (fun q => by cases q)

abbrev mL_foundCost : mM := (yL_foundCost, cL_foundCost, 4, (some .int), [(0, 8, 11, 24)])
theorem u1495 : (Cond.code ⟨"LineFollowerBench", "foundCost", "(Z)J"⟩ prog_1_method_28_code 3 (some .long) : Cond) ∈ mTs := mTs_in 1495 (by decide +kernel) (by decide +kernel)
theorem co_X10_foundCost : mCode mX10_foundCost := ⟨u1495, u70, by decide⟩
theorem u1492 : (Cond.methodLink "LineFollowerBenchLaw" 89 ⟨"LineFollowerBench", "foundCost", "(Z)J"⟩ : Cond) ∈ mTs := mTs_in 1492 (by decide +kernel) (by decide +kernel)
theorem u1493 : (Cond.instanceMethod ⟨"LineFollowerBench", "foundCost", "(Z)J"⟩ : Cond) ∈ mTs := mTs_in 1493 (by decide +kernel) (by decide +kernel)
theorem u1494 : (Cond.selects "LineFollowerBench" ⟨"LineFollowerBench", "foundCost", "(Z)J"⟩ ⟨"LineFollowerBench", "foundCost", "(Z)J"⟩ : Cond) ∈ mTs := mTs_in 1494 (by decide +kernel) (by decide +kernel)
theorem l_L_89 : mLinkV "LineFollowerBenchLaw" 89 1 mX10_foundCost := ⟨⟨by decide, by decide, by decide +kernel⟩, co_X10_foundCost, u1492, u1493, u1494⟩
theorem ca_L_foundCost_1 : mCatch mL_foundCost 4 "java/lang/IllegalStateException" 11 := ⟨[], [], (0, 8, 11, 24), "java/lang/IllegalStateException", rfl, (fun z hz => by cases hz), by decide, by decide, u828, v848, rfl, by decide⟩
theorem tL_foundCost {G : mG} {w : mH} {a o kc ks : Nat} {x1 : Int32} {t : Int32} {v : Int64} {Qb Q : mH → Prop} (hC : mC G mX10_foundCost 9 kc ks [.ref a, .int x1] w (tpO "java/lang/IllegalStateException" "" "" t (.long v) Qb Q)) (ha : hk w a = (10, 0)) (ht : t = 0 ∨ t = 1) (ho : ∀ u, Q u → hk u o = (17, 1)) : mCH G mL_foundCost 10 kc ks [.ref a, .int x1, .ref o] w (fun r w' => r = .inl (some (.int t)) ∧ (t = 0 → ∃ u, Q u ∧ w' = sal u o 0 v) ∧ (¬ t = 0 → ∃ (u : mH) (n : Nat), Qb u ∧ hN u ≤ n ∧ w' = snn u n)) := by
  refine mCH_of (by decide +kernel) (Nat.le_of_ble_eq_true rfl) rfl ?_
  refine mW_aload_n (j := 2) dL_foundCost_0 rfl rfl ?_
  refine mW_iconst (v := 0) dL_foundCost_1 (by decide) ?_
  refine mW_aload_n (j := 0) dL_foundCost_2 rfl rfl ?_
  refine mW_iload_n (j := 1) dL_foundCost_3 rfl rfl ?_
  refine mW_callVX (As := [.int x1]) (rest := [.int 0, .ref o]) (kc2 := 0) (ks2 := 0) dL_foundCost_4 l_L_89 rfl ha rfl (by decide) hC (Nat.le_of_ble_eq_true rfl) (by decide) (Nat.add_zero _) (Nat.add_zero _) (fun E w' h => ?_) (fun v' w' h => ?_)
  · rcases ht with h0 | h0
    · exact absurd (h.1 h0).1 (fun q => by cases q)
    · subst h0
      obtain ⟨h1, u, nn, h2, h3, h4⟩ := h.2 (by decide)
      cases h1
      subst h4
      refine ⟨11, ca_L_foundCost_1, fun q => ?_⟩
      refine mW_astore_n (lv2 := [(3, .ref q), (0, .ref a), (1, .int x1), (2, .ref o)]) dL_foundCost_11 rfl (by decide) rfl ?_
      refine mW_iconst (v := 1) dL_foundCost_12 (by decide) ?_
      exact mW_iret dL_foundCost_13 rfl ⟨rfl, fun h0 => absurd h0 (by decide), fun _ => ⟨_, _, h2, h3, rfl⟩⟩
  · rcases ht with h0 | h0
    · obtain ⟨h1, h2⟩ := h.1 h0
      cases h1
      subst h0
      refine mW_lastJ dL_foundCost_7 (ho _ h2) (by unfold vp_in; decide) (j := 0) (by decide) ?_
      refine mW_goto (tgt := 14) dL_foundCost_8 (by decide) ?_
      refine mW_iconst (v := 0) dL_foundCost_14 (by decide) ?_
      exact mW_iret dL_foundCost_15 rfl ⟨rfl, fun _ => ⟨_, h2, rfl⟩, fun hn => absurd rfl hn⟩
    · exact absurd (h.2 (by rw [h0]; decide)).1 (fun q => by cases q)

abbrev mL_apply : mM := (yL_apply, cL_apply, 4, (some .int), [(0, 9, 12, 24)])
theorem u1502 : (Cond.code ⟨"LineFollowerBench", "apply", "(Z)I"⟩ prog_1_method_29_code 5 (some .int) : Cond) ∈ mTs := mTs_in 1502 (by decide +kernel) (by decide +kernel)
theorem co_X10_apply : mCode mX10_apply := ⟨u1502, u70, by decide⟩
theorem u1499 : (Cond.methodLink "LineFollowerBenchLaw" 93 ⟨"LineFollowerBench", "apply", "(Z)I"⟩ : Cond) ∈ mTs := mTs_in 1499 (by decide +kernel) (by decide +kernel)
theorem u1500 : (Cond.instanceMethod ⟨"LineFollowerBench", "apply", "(Z)I"⟩ : Cond) ∈ mTs := mTs_in 1500 (by decide +kernel) (by decide +kernel)
theorem u1501 : (Cond.selects "LineFollowerBench" ⟨"LineFollowerBench", "apply", "(Z)I"⟩ ⟨"LineFollowerBench", "apply", "(Z)I"⟩ : Cond) ∈ mTs := mTs_in 1501 (by decide +kernel) (by decide +kernel)
theorem l_L_93 : mLinkV "LineFollowerBenchLaw" 93 1 mX10_apply := ⟨⟨by decide, by decide, by decide +kernel⟩, co_X10_apply, u1499, u1500, u1501⟩
theorem ca_L_apply_1 : mCatch mL_apply 4 "java/lang/IllegalStateException" 12 := ⟨[], [], (0, 9, 12, 24), "java/lang/IllegalStateException", rfl, (fun z hz => by cases hz), by decide, by decide, u828, v848, rfl, by decide⟩
theorem tL_apply {G : mG} {w : mH} {a o kc ks : Nat} {x1 : Int32} {t : Int32} {v : Int32} {Qb Q : mH → Prop} (hC : mC G mX10_apply 9 kc ks [.ref a, .int x1] w (tpO "java/lang/IllegalStateException" "" "" t (.int v) Qb Q)) (ha : hk w a = (10, 0)) (ht : t = 0 ∨ t = 1) (ho : ∀ u, Q u → hk u o = (17, 1)) : mCH G mL_apply 10 kc ks [.ref a, .int x1, .ref o] w (fun r w' => r = .inl (some (.int t)) ∧ (t = 0 → ∃ u, Q u ∧ w' = sal u o 0 v.toInt64) ∧ (¬ t = 0 → ∃ (u : mH) (n : Nat), Qb u ∧ hN u ≤ n ∧ w' = snn u n)) := by
  refine mCH_of (by decide +kernel) (Nat.le_of_ble_eq_true rfl) rfl ?_
  refine mW_aload_n (j := 2) dL_apply_0 rfl rfl ?_
  refine mW_iconst (v := 0) dL_apply_1 (by decide) ?_
  refine mW_aload_n (j := 0) dL_apply_2 rfl rfl ?_
  refine mW_iload_n (j := 1) dL_apply_3 rfl rfl ?_
  refine mW_callVX (As := [.int x1]) (rest := [.int 0, .ref o]) (kc2 := 0) (ks2 := 0) dL_apply_4 l_L_93 rfl ha rfl (by decide) hC (Nat.le_of_ble_eq_true rfl) (by decide) (Nat.add_zero _) (Nat.add_zero _) (fun E w' h => ?_) (fun v' w' h => ?_)
  · rcases ht with h0 | h0
    · exact absurd (h.1 h0).1 (fun q => by cases q)
    · subst h0
      obtain ⟨h1, u, nn, h2, h3, h4⟩ := h.2 (by decide)
      cases h1
      subst h4
      refine ⟨12, ca_L_apply_1, fun q => ?_⟩
      refine mW_astore_n (lv2 := [(3, .ref q), (0, .ref a), (1, .int x1), (2, .ref o)]) dL_apply_12 rfl (by decide) rfl ?_
      refine mW_iconst (v := 1) dL_apply_13 (by decide) ?_
      exact mW_iret dL_apply_14 rfl ⟨rfl, fun h0 => absurd h0 (by decide), fun _ => ⟨_, _, h2, h3, rfl⟩⟩
  · rcases ht with h0 | h0
    · obtain ⟨h1, h2⟩ := h.1 h0
      cases h1
      subst h0
      refine mW_i2l dL_apply_7 ?_
      refine mW_lastJ dL_apply_8 (ho _ h2) (by unfold vp_in; decide) (j := 0) (by decide) ?_
      refine mW_goto (tgt := 15) dL_apply_9 (by decide) ?_
      refine mW_iconst (v := 0) dL_apply_15 (by decide) ?_
      exact mW_iret dL_apply_16 rfl ⟨rfl, fun _ => ⟨_, h2, rfl⟩, fun hn => absurd rfl hn⟩
    · exact absurd (h.2 (by rw [h0]; decide)).1 (fun q => by cases q)

abbrev mL_lowest : mM := (yL_lowest, cL_lowest, 6, (some .int), [(0, 11, 14, 13), (0, 11, 18, 29)])
theorem u1509 : (Cond.code ⟨"LineFollowerBench", "lowest", "(IJ)I"⟩ prog_1_method_30_code 5 (some .int) : Cond) ∈ mTs := mTs_in 1509 (by decide +kernel) (by decide +kernel)
theorem co_X10_lowest : mCode mX10_lowest := ⟨u1509, u70, by decide⟩
theorem u1506 : (Cond.methodLink "LineFollowerBenchLaw" 97 ⟨"LineFollowerBench", "lowest", "(IJ)I"⟩ : Cond) ∈ mTs := mTs_in 1506 (by decide +kernel) (by decide +kernel)
theorem u1507 : (Cond.instanceMethod ⟨"LineFollowerBench", "lowest", "(IJ)I"⟩ : Cond) ∈ mTs := mTs_in 1507 (by decide +kernel) (by decide +kernel)
theorem u1508 : (Cond.selects "LineFollowerBench" ⟨"LineFollowerBench", "lowest", "(IJ)I"⟩ ⟨"LineFollowerBench", "lowest", "(IJ)I"⟩ : Cond) ∈ mTs := mTs_in 1508 (by decide +kernel) (by decide +kernel)
theorem l_L_97 : mLinkV "LineFollowerBenchLaw" 97 2 mX10_lowest := ⟨⟨by decide, by decide, by decide +kernel⟩, co_X10_lowest, u1506, u1507, u1508⟩
theorem ca_L_lowest_1 : mCatch mL_lowest 6 "java/lang/IndexOutOfBoundsException" 14 := ⟨[], [(0, 11, 18, 29)], (0, 11, 14, 13), "java/lang/IndexOutOfBoundsException", rfl, (fun z hz => by cases hz), by decide, by decide, u710, v719, rfl, by decide⟩
theorem ca_L_lowest_2 : mCatch mL_lowest 6 "java/util/NoSuchElementException" 18 := ⟨[(0, 11, 14, 13)], [], (0, 11, 18, 29), "java/util/NoSuchElementException", rfl, (fun z hz => by cases List.mem_singleton.mp hz; exact ⟨by decide, _, u710, by decide⟩), by decide, by decide, u873, v882, rfl, by decide⟩
theorem tL_lowest {G : mG} {w : mH} {a o kc ks : Nat} {x1 : Int32} {y2 : Int64} {t : Int32} {v : Int32} {Qb Q : mH → Prop} (hC : mC G mX10_lowest 9 kc ks [.ref a, .int x1, .long y2] w (tpO "java/lang/IndexOutOfBoundsException" "java/util/NoSuchElementException" "" t (.int v) Qb Q)) (ha : hk w a = (10, 0)) (ht : t = 0 ∨ t = 1 ∨ t = 2) (ho : ∀ u, Q u → hk u o = (17, 1)) : mCH G mL_lowest 10 kc ks [.ref a, .int x1, .long y2, .ref o] w (fun r w' => r = .inl (some (.int t)) ∧ (t = 0 → ∃ u, Q u ∧ w' = sal u o 0 v.toInt64) ∧ (¬ t = 0 → ∃ (u : mH) (n : Nat), Qb u ∧ hN u ≤ n ∧ w' = snn u n)) := by
  refine mCH_of (by decide +kernel) (Nat.le_of_ble_eq_true rfl) rfl ?_
  refine mW_aload (j := 3) dL_lowest_0 rfl ?_
  refine mW_iconst (v := 0) dL_lowest_2 (by decide) ?_
  refine mW_aload_n (j := 0) dL_lowest_3 rfl rfl ?_
  refine mW_iload_n (j := 1) dL_lowest_4 rfl rfl ?_
  refine mW_lload_n (j := 2) dL_lowest_5 rfl rfl ?_
  refine mW_callVX (As := [.int x1, .long y2]) (rest := [.int 0, .ref o]) (kc2 := 0) (ks2 := 0) dL_lowest_6 l_L_97 rfl ha rfl (by decide) hC (Nat.le_of_ble_eq_true rfl) (by decide) (Nat.add_zero _) (Nat.add_zero _) (fun E w' h => ?_) (fun v' w' h => ?_)
  · rcases ht with h0 | h0 | h0
    · exact absurd (h.1 h0).1 (fun q => by cases q)
    · subst h0
      obtain ⟨h1, u, nn, h2, h3, h4⟩ := h.2 (by decide)
      cases h1
      subst h4
      refine ⟨14, ca_L_lowest_1, fun q => ?_⟩
      refine mW_astore (lv2 := [(5, .ref q), (0, .ref a), (1, .int x1), (2, .long y2), (4, .ref o)]) dL_lowest_14 (by decide) rfl ?_
      refine mW_iconst (v := 1) dL_lowest_16 (by decide) ?_
      exact mW_iret dL_lowest_17 rfl ⟨rfl, fun h0 => absurd h0 (by decide), fun _ => ⟨_, _, h2, h3, rfl⟩⟩
    · subst h0
      obtain ⟨h1, u, nn, h2, h3, h4⟩ := h.2 (by decide)
      cases h1
      subst h4
      refine ⟨18, ca_L_lowest_2, fun q => ?_⟩
      refine mW_astore (lv2 := [(5, .ref q), (0, .ref a), (1, .int x1), (2, .long y2), (4, .ref o)]) dL_lowest_18 (by decide) rfl ?_
      refine mW_iconst (v := 2) dL_lowest_20 (by decide) ?_
      exact mW_iret dL_lowest_21 rfl ⟨rfl, fun h0 => absurd h0 (by decide), fun _ => ⟨_, _, h2, h3, rfl⟩⟩
  · rcases ht with h0 | h0 | h0
    · obtain ⟨h1, h2⟩ := h.1 h0
      cases h1
      subst h0
      refine mW_i2l dL_lowest_9 ?_
      refine mW_lastJ dL_lowest_10 (ho _ h2) (by unfold vp_in; decide) (j := 0) (by decide) ?_
      refine mW_goto (tgt := 22) dL_lowest_11 (by decide) ?_
      refine mW_iconst (v := 0) dL_lowest_22 (by decide) ?_
      exact mW_iret dL_lowest_23 rfl ⟨rfl, fun _ => ⟨_, h2, rfl⟩, fun hn => absurd rfl hn⟩
    · exact absurd (h.2 (by rw [h0]; decide)).1 (fun q => by cases q)
    · exact absurd (h.2 (by rw [h0]; decide)).1 (fun q => by cases q)

abbrev mL_count : mM := (yL_count, cL_count, 4, (some .int), [(0, 9, 12, 15)])
theorem u1523 : (Cond.code ⟨"LineFollowerBench", "count", "(I)I"⟩ prog_1_method_31_code 2 (some .int) : Cond) ∈ mTs := mTs_in 1523 (by decide +kernel) (by decide +kernel)
theorem co_X10_count : mCode mX10_count := ⟨u1523, u70, by decide⟩
theorem u1520 : (Cond.methodLink "LineFollowerBenchLaw" 101 ⟨"LineFollowerBench", "count", "(I)I"⟩ : Cond) ∈ mTs := mTs_in 1520 (by decide +kernel) (by decide +kernel)
theorem u1521 : (Cond.instanceMethod ⟨"LineFollowerBench", "count", "(I)I"⟩ : Cond) ∈ mTs := mTs_in 1521 (by decide +kernel) (by decide +kernel)
theorem u1522 : (Cond.selects "LineFollowerBench" ⟨"LineFollowerBench", "count", "(I)I"⟩ ⟨"LineFollowerBench", "count", "(I)I"⟩ : Cond) ∈ mTs := mTs_in 1522 (by decide +kernel) (by decide +kernel)
theorem l_L_101 : mLinkV "LineFollowerBenchLaw" 101 1 mX10_count := ⟨⟨by decide, by decide, by decide +kernel⟩, co_X10_count, u1520, u1521, u1522⟩
theorem ca_L_count_1 : mCatch mL_count 4 "java/lang/IllegalArgumentException" 12 := ⟨[], [], (0, 9, 12, 15), "java/lang/IllegalArgumentException", rfl, (fun z hz => by cases hz), by decide, by decide, u711, v793, rfl, by decide⟩
theorem tL_count {G : mG} {w : mH} {a o kc ks : Nat} {x1 : Int32} {t : Int32} {v : Int32} {Qb Q : mH → Prop} (hC : mC G mX10_count 9 kc ks [.ref a, .int x1] w (tpO "java/lang/IllegalArgumentException" "" "" t (.int v) Qb Q)) (ha : hk w a = (10, 0)) (ht : t = 0 ∨ t = 1) (ho : ∀ u, Q u → hk u o = (17, 1)) : mCH G mL_count 10 kc ks [.ref a, .int x1, .ref o] w (fun r w' => r = .inl (some (.int t)) ∧ (t = 0 → ∃ u, Q u ∧ w' = sal u o 0 v.toInt64) ∧ (¬ t = 0 → ∃ (u : mH) (n : Nat), Qb u ∧ hN u ≤ n ∧ w' = snn u n)) := by
  refine mCH_of (by decide +kernel) (Nat.le_of_ble_eq_true rfl) rfl ?_
  refine mW_aload_n (j := 2) dL_count_0 rfl rfl ?_
  refine mW_iconst (v := 0) dL_count_1 (by decide) ?_
  refine mW_aload_n (j := 0) dL_count_2 rfl rfl ?_
  refine mW_iload_n (j := 1) dL_count_3 rfl rfl ?_
  refine mW_callVX (As := [.int x1]) (rest := [.int 0, .ref o]) (kc2 := 0) (ks2 := 0) dL_count_4 l_L_101 rfl ha rfl (by decide) hC (Nat.le_of_ble_eq_true rfl) (by decide) (Nat.add_zero _) (Nat.add_zero _) (fun E w' h => ?_) (fun v' w' h => ?_)
  · rcases ht with h0 | h0
    · exact absurd (h.1 h0).1 (fun q => by cases q)
    · subst h0
      obtain ⟨h1, u, nn, h2, h3, h4⟩ := h.2 (by decide)
      cases h1
      subst h4
      refine ⟨12, ca_L_count_1, fun q => ?_⟩
      refine mW_astore_n (lv2 := [(3, .ref q), (0, .ref a), (1, .int x1), (2, .ref o)]) dL_count_12 rfl (by decide) rfl ?_
      refine mW_iconst (v := 1) dL_count_13 (by decide) ?_
      exact mW_iret dL_count_14 rfl ⟨rfl, fun h0 => absurd h0 (by decide), fun _ => ⟨_, _, h2, h3, rfl⟩⟩
  · rcases ht with h0 | h0
    · obtain ⟨h1, h2⟩ := h.1 h0
      cases h1
      subst h0
      refine mW_i2l dL_count_7 ?_
      refine mW_lastJ dL_count_8 (ho _ h2) (by unfold vp_in; decide) (j := 0) (by decide) ?_
      refine mW_goto (tgt := 15) dL_count_9 (by decide) ?_
      refine mW_iconst (v := 0) dL_count_15 (by decide) ?_
      exact mW_iret dL_count_16 rfl ⟨rfl, fun _ => ⟨_, h2, rfl⟩, fun hn => absurd rfl hn⟩
    · exact absurd (h.2 (by rw [h0]; decide)).1 (fun q => by cases q)

abbrev mL_undo : mM := (yL_undo, cL_undo, 3, (some .int), [(0, 8, 11, 24)])
theorem u1535 : (Cond.code ⟨"LineFollowerBench", "undo", "()I"⟩ prog_1_method_32_code 1 (some .int) : Cond) ∈ mTs := mTs_in 1535 (by decide +kernel) (by decide +kernel)
theorem co_X10_undo : mCode mX10_undo := ⟨u1535, u70, by decide⟩
theorem u1532 : (Cond.methodLink "LineFollowerBenchLaw" 104 ⟨"LineFollowerBench", "undo", "()I"⟩ : Cond) ∈ mTs := mTs_in 1532 (by decide +kernel) (by decide +kernel)
theorem u1533 : (Cond.instanceMethod ⟨"LineFollowerBench", "undo", "()I"⟩ : Cond) ∈ mTs := mTs_in 1533 (by decide +kernel) (by decide +kernel)
theorem u1534 : (Cond.selects "LineFollowerBench" ⟨"LineFollowerBench", "undo", "()I"⟩ ⟨"LineFollowerBench", "undo", "()I"⟩ : Cond) ∈ mTs := mTs_in 1534 (by decide +kernel) (by decide +kernel)
theorem l_L_104 : mLinkV "LineFollowerBenchLaw" 104 0 mX10_undo := ⟨⟨by decide, by decide, by decide +kernel⟩, co_X10_undo, u1532, u1533, u1534⟩
theorem ca_L_undo_1 : mCatch mL_undo 3 "java/lang/IllegalStateException" 11 := ⟨[], [], (0, 8, 11, 24), "java/lang/IllegalStateException", rfl, (fun z hz => by cases hz), by decide, by decide, u828, v848, rfl, by decide⟩
theorem tL_undo {G : mG} {w : mH} {a o kc ks : Nat}  {t : Int32} {v : Int32} {Qb Q : mH → Prop} (hC : mC G mX10_undo 9 kc ks [.ref a] w (tpO "java/lang/IllegalStateException" "" "" t (.int v) Qb Q)) (ha : hk w a = (10, 0)) (ht : t = 0 ∨ t = 1) (ho : ∀ u, Q u → hk u o = (17, 1)) : mCH G mL_undo 10 kc ks [.ref a, .ref o] w (fun r w' => r = .inl (some (.int t)) ∧ (t = 0 → ∃ u, Q u ∧ w' = sal u o 0 v.toInt64) ∧ (¬ t = 0 → ∃ (u : mH) (n : Nat), Qb u ∧ hN u ≤ n ∧ w' = snn u n)) := by
  refine mCH_of (by decide +kernel) (Nat.le_of_ble_eq_true rfl) rfl ?_
  refine mW_aload_n (j := 1) dL_undo_0 rfl rfl ?_
  refine mW_iconst (v := 0) dL_undo_1 (by decide) ?_
  refine mW_aload_n (j := 0) dL_undo_2 rfl rfl ?_
  refine mW_callVX (As := []) (rest := [.int 0, .ref o]) (kc2 := 0) (ks2 := 0) dL_undo_3 l_L_104 rfl ha rfl (by decide) hC (Nat.le_of_ble_eq_true rfl) (by decide) (Nat.add_zero _) (Nat.add_zero _) (fun E w' h => ?_) (fun v' w' h => ?_)
  · rcases ht with h0 | h0
    · exact absurd (h.1 h0).1 (fun q => by cases q)
    · subst h0
      obtain ⟨h1, u, nn, h2, h3, h4⟩ := h.2 (by decide)
      cases h1
      subst h4
      refine ⟨11, ca_L_undo_1, fun q => ?_⟩
      refine mW_astore_n (lv2 := [(2, .ref q), (0, .ref a), (1, .ref o)]) dL_undo_11 rfl (by decide) rfl ?_
      refine mW_iconst (v := 1) dL_undo_12 (by decide) ?_
      exact mW_iret dL_undo_13 rfl ⟨rfl, fun h0 => absurd h0 (by decide), fun _ => ⟨_, _, h2, h3, rfl⟩⟩
  · rcases ht with h0 | h0
    · obtain ⟨h1, h2⟩ := h.1 h0
      cases h1
      subst h0
      refine mW_i2l dL_undo_6 ?_
      refine mW_lastJ dL_undo_7 (ho _ h2) (by unfold vp_in; decide) (j := 0) (by decide) ?_
      refine mW_goto (tgt := 14) dL_undo_8 (by decide) ?_
      refine mW_iconst (v := 0) dL_undo_14 (by decide) ?_
      exact mW_iret dL_undo_15 rfl ⟨rfl, fun _ => ⟨_, h2, rfl⟩, fun hn => absurd rfl hn⟩
    · exact absurd (h.2 (by rw [h0]; decide)).1 (fun q => by cases q)

abbrev mL_restore : mM := (yL_restore, cL_restore, 3, (some .int), [(0, 8, 11, 24)])
theorem u1547 : (Cond.code ⟨"LineFollowerBench", "restore", "()I"⟩ prog_1_method_34_code 1 (some .int) : Cond) ∈ mTs := mTs_in 1547 (by decide +kernel) (by decide +kernel)
theorem co_X10_restore : mCode mX10_restore := ⟨u1547, u70, by decide⟩
theorem u1544 : (Cond.methodLink "LineFollowerBenchLaw" 107 ⟨"LineFollowerBench", "restore", "()I"⟩ : Cond) ∈ mTs := mTs_in 1544 (by decide +kernel) (by decide +kernel)
theorem u1545 : (Cond.instanceMethod ⟨"LineFollowerBench", "restore", "()I"⟩ : Cond) ∈ mTs := mTs_in 1545 (by decide +kernel) (by decide +kernel)
theorem u1546 : (Cond.selects "LineFollowerBench" ⟨"LineFollowerBench", "restore", "()I"⟩ ⟨"LineFollowerBench", "restore", "()I"⟩ : Cond) ∈ mTs := mTs_in 1546 (by decide +kernel) (by decide +kernel)
theorem l_L_107 : mLinkV "LineFollowerBenchLaw" 107 0 mX10_restore := ⟨⟨by decide, by decide, by decide +kernel⟩, co_X10_restore, u1544, u1545, u1546⟩
theorem ca_L_restore_1 : mCatch mL_restore 3 "java/lang/IllegalStateException" 11 := ⟨[], [], (0, 8, 11, 24), "java/lang/IllegalStateException", rfl, (fun z hz => by cases hz), by decide, by decide, u828, v848, rfl, by decide⟩
theorem tL_restore {G : mG} {w : mH} {a o kc ks : Nat}  {t : Int32} {v : Int32} {Qb Q : mH → Prop} (hC : mC G mX10_restore 9 kc ks [.ref a] w (tpO "java/lang/IllegalStateException" "" "" t (.int v) Qb Q)) (ha : hk w a = (10, 0)) (ht : t = 0 ∨ t = 1) (ho : ∀ u, Q u → hk u o = (17, 1)) : mCH G mL_restore 10 kc ks [.ref a, .ref o] w (fun r w' => r = .inl (some (.int t)) ∧ (t = 0 → ∃ u, Q u ∧ w' = sal u o 0 v.toInt64) ∧ (¬ t = 0 → ∃ (u : mH) (n : Nat), Qb u ∧ hN u ≤ n ∧ w' = snn u n)) := by
  refine mCH_of (by decide +kernel) (Nat.le_of_ble_eq_true rfl) rfl ?_
  refine mW_aload_n (j := 1) dL_restore_0 rfl rfl ?_
  refine mW_iconst (v := 0) dL_restore_1 (by decide) ?_
  refine mW_aload_n (j := 0) dL_restore_2 rfl rfl ?_
  refine mW_callVX (As := []) (rest := [.int 0, .ref o]) (kc2 := 0) (ks2 := 0) dL_restore_3 l_L_107 rfl ha rfl (by decide) hC (Nat.le_of_ble_eq_true rfl) (by decide) (Nat.add_zero _) (Nat.add_zero _) (fun E w' h => ?_) (fun v' w' h => ?_)
  · rcases ht with h0 | h0
    · exact absurd (h.1 h0).1 (fun q => by cases q)
    · subst h0
      obtain ⟨h1, u, nn, h2, h3, h4⟩ := h.2 (by decide)
      cases h1
      subst h4
      refine ⟨11, ca_L_restore_1, fun q => ?_⟩
      refine mW_astore_n (lv2 := [(2, .ref q), (0, .ref a), (1, .ref o)]) dL_restore_11 rfl (by decide) rfl ?_
      refine mW_iconst (v := 1) dL_restore_12 (by decide) ?_
      exact mW_iret dL_restore_13 rfl ⟨rfl, fun h0 => absurd h0 (by decide), fun _ => ⟨_, _, h2, h3, rfl⟩⟩
  · rcases ht with h0 | h0
    · obtain ⟨h1, h2⟩ := h.1 h0
      cases h1
      subst h0
      refine mW_i2l dL_restore_6 ?_
      refine mW_lastJ dL_restore_7 (ho _ h2) (by unfold vp_in; decide) (j := 0) (by decide) ?_
      refine mW_goto (tgt := 14) dL_restore_8 (by decide) ?_
      refine mW_iconst (v := 0) dL_restore_14 (by decide) ?_
      exact mW_iret dL_restore_15 rfl ⟨rfl, fun _ => ⟨_, h2, rfl⟩, fun hn => absurd rfl hn⟩
    · exact absurd (h.2 (by rw [h0]; decide)).1 (fun q => by cases q)

