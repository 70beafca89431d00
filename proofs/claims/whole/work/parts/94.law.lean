abbrev mL_law (nm : String) : mM := (⟨"LineFollowerBenchLaw", nm, "([I)Z"⟩, cL_law, 8, (some .boolean), mUnk)
set_option maxHeartbeats 4000000 in
set_option maxRecDepth 100000 in
theorem gL_law_23 {G : mG} {nm : String} {kc ks : Nat} {w : mH} {Φ : mF} {a1 a2 a3 : Nat} {x4 : Int32} (s1 : (¬ (((nI (G.2.2.2 6)) - 5) < x4)) → vp_in x4 (G.2.2.2 6)) (k1 : (((nI (G.2.2.2 6)) - 5) < x4) → Φ (.inl (some (.int 1))) w) (k2 : (¬ (((nI (G.2.2.2 6)) - 5) < x4)) → (((mScr G x4.toNatClampNeg) &&& 63) = 0) → mW G (mL_law nm) 11 kc ks 184 [(0, .ref (G.2.2.2 5)), (1, .ref a1), (2, .ref a2), (3, .ref a3), (4, .int x4)] [] w Φ) (k3 : (¬ (((nI (G.2.2.2 6)) - 5) < x4)) → (¬ ((mScr G x4.toNatClampNeg) &&& 63) = 0) → (((mScr G x4.toNatClampNeg) &&& 63) = 1) → mW G (mL_law nm) 11 kc ks 252 [(0, .ref (G.2.2.2 5)), (1, .ref a1), (2, .ref a2), (3, .ref a3), (4, .int x4)] [] w Φ) (k4 : (¬ (((nI (G.2.2.2 6)) - 5) < x4)) → (¬ ((mScr G x4.toNatClampNeg) &&& 63) = 0) → (¬ ((mScr G x4.toNatClampNeg) &&& 63) = 1) → (((mScr G x4.toNatClampNeg) &&& 63) = 2) → mW G (mL_law nm) 11 kc ks 308 [(0, .ref (G.2.2.2 5)), (1, .ref a1), (2, .ref a2), (3, .ref a3), (4, .int x4)] [] w Φ) (k5 : (¬ (((nI (G.2.2.2 6)) - 5) < x4)) → (¬ ((mScr G x4.toNatClampNeg) &&& 63) = 0) → (¬ ((mScr G x4.toNatClampNeg) &&& 63) = 1) → (¬ ((mScr G x4.toNatClampNeg) &&& 63) = 2) → (((mScr G x4.toNatClampNeg) &&& 63) = 3) → mW G (mL_law nm) 11 kc ks 376 [(0, .ref (G.2.2.2 5)), (1, .ref a1), (2, .ref a2), (3, .ref a3), (4, .int x4)] [] w Φ) (k6 : (¬ (((nI (G.2.2.2 6)) - 5) < x4)) → (¬ ((mScr G x4.toNatClampNeg) &&& 63) = 0) → (¬ ((mScr G x4.toNatClampNeg) &&& 63) = 1) → (¬ ((mScr G x4.toNatClampNeg) &&& 63) = 2) → (¬ ((mScr G x4.toNatClampNeg) &&& 63) = 3) → (((mScr G x4.toNatClampNeg) &&& 63) = 4) → mW G (mL_law nm) 11 kc ks 432 [(0, .ref (G.2.2.2 5)), (1, .ref a1), (2, .ref a2), (3, .ref a3), (4, .int x4)] [] w Φ) (k7 : (¬ (((nI (G.2.2.2 6)) - 5) < x4)) → (¬ ((mScr G x4.toNatClampNeg) &&& 63) = 0) → (¬ ((mScr G x4.toNatClampNeg) &&& 63) = 1) → (¬ ((mScr G x4.toNatClampNeg) &&& 63) = 2) → (¬ ((mScr G x4.toNatClampNeg) &&& 63) = 3) → (¬ ((mScr G x4.toNatClampNeg) &&& 63) = 4) → (((mScr G x4.toNatClampNeg) &&& 63) = 5) → mW G (mL_law nm) 11 kc ks 500 [(0, .ref (G.2.2.2 5)), (1, .ref a1), (2, .ref a2), (3, .ref a3), (4, .int x4)] [] w Φ) (k8 : (¬ (((nI (G.2.2.2 6)) - 5) < x4)) → (¬ ((mScr G x4.toNatClampNeg) &&& 63) = 0) → (¬ ((mScr G x4.toNatClampNeg) &&& 63) = 1) → (¬ ((mScr G x4.toNatClampNeg) &&& 63) = 2) → (¬ ((mScr G x4.toNatClampNeg) &&& 63) = 3) → (¬ ((mScr G x4.toNatClampNeg) &&& 63) = 4) → (¬ ((mScr G x4.toNatClampNeg) &&& 63) = 5) → (((mScr G x4.toNatClampNeg) &&& 63) = 6) → mW G (mL_law nm) 11 kc ks 556 [(0, .ref (G.2.2.2 5)), (1, .ref a1), (2, .ref a2), (3, .ref a3), (4, .int x4)] [] w Φ) (k9 : (¬ (((nI (G.2.2.2 6)) - 5) < x4)) → (¬ ((mScr G x4.toNatClampNeg) &&& 63) = 0) → (¬ ((mScr G x4.toNatClampNeg) &&& 63) = 1) → (¬ ((mScr G x4.toNatClampNeg) &&& 63) = 2) → (¬ ((mScr G x4.toNatClampNeg) &&& 63) = 3) → (¬ ((mScr G x4.toNatClampNeg) &&& 63) = 4) → (¬ ((mScr G x4.toNatClampNeg) &&& 63) = 5) → (¬ ((mScr G x4.toNatClampNeg) &&& 63) = 6) → (((mScr G x4.toNatClampNeg) &&& 63) = 7) → mW G (mL_law nm) 11 kc ks 624 [(0, .ref (G.2.2.2 5)), (1, .ref a1), (2, .ref a2), (3, .ref a3), (4, .int x4)] [] w Φ) (k10 : (¬ (((nI (G.2.2.2 6)) - 5) < x4)) → (¬ ((mScr G x4.toNatClampNeg) &&& 63) = 0) → (¬ ((mScr G x4.toNatClampNeg) &&& 63) = 1) → (¬ ((mScr G x4.toNatClampNeg) &&& 63) = 2) → (¬ ((mScr G x4.toNatClampNeg) &&& 63) = 3) → (¬ ((mScr G x4.toNatClampNeg) &&& 63) = 4) → (¬ ((mScr G x4.toNatClampNeg) &&& 63) = 5) → (¬ ((mScr G x4.toNatClampNeg) &&& 63) = 6) → (¬ ((mScr G x4.toNatClampNeg) &&& 63) = 7) → (((mScr G x4.toNatClampNeg) &&& 63) = 8) → mW G (mL_law nm) 11 kc ks 716 [(0, .ref (G.2.2.2 5)), (1, .ref a1), (2, .ref a2), (3, .ref a3), (4, .int x4)] [] w Φ) (k11 : (¬ (((nI (G.2.2.2 6)) - 5) < x4)) → (¬ ((mScr G x4.toNatClampNeg) &&& 63) = 0) → (¬ ((mScr G x4.toNatClampNeg) &&& 63) = 1) → (¬ ((mScr G x4.toNatClampNeg) &&& 63) = 2) → (¬ ((mScr G x4.toNatClampNeg) &&& 63) = 3) → (¬ ((mScr G x4.toNatClampNeg) &&& 63) = 4) → (¬ ((mScr G x4.toNatClampNeg) &&& 63) = 5) → (¬ ((mScr G x4.toNatClampNeg) &&& 63) = 6) → (¬ ((mScr G x4.toNatClampNeg) &&& 63) = 7) → (¬ ((mScr G x4.toNatClampNeg) &&& 63) = 8) → (((mScr G x4.toNatClampNeg) &&& 63) = 9) → mW G (mL_law nm) 11 kc ks 772 [(0, .ref (G.2.2.2 5)), (1, .ref a1), (2, .ref a2), (3, .ref a3), (4, .int x4)] [] w Φ) (k12 : (¬ (((nI (G.2.2.2 6)) - 5) < x4)) → (¬ ((mScr G x4.toNatClampNeg) &&& 63) = 0) → (¬ ((mScr G x4.toNatClampNeg) &&& 63) = 1) → (¬ ((mScr G x4.toNatClampNeg) &&& 63) = 2) → (¬ ((mScr G x4.toNatClampNeg) &&& 63) = 3) → (¬ ((mScr G x4.toNatClampNeg) &&& 63) = 4) → (¬ ((mScr G x4.toNatClampNeg) &&& 63) = 5) → (¬ ((mScr G x4.toNatClampNeg) &&& 63) = 6) → (¬ ((mScr G x4.toNatClampNeg) &&& 63) = 7) → (¬ ((mScr G x4.toNatClampNeg) &&& 63) = 8) → (¬ ((mScr G x4.toNatClampNeg) &&& 63) = 9) → (((mScr G x4.toNatClampNeg) &&& 63) = 10) → mW G (mL_law nm) 11 kc ks 816 [(0, .ref (G.2.2.2 5)), (1, .ref a1), (2, .ref a2), (3, .ref a3), (4, .int x4)] [] w Φ) (k13 : (¬ (((nI (G.2.2.2 6)) - 5) < x4)) → (¬ ((mScr G x4.toNatClampNeg) &&& 63) = 0) → (¬ ((mScr G x4.toNatClampNeg) &&& 63) = 1) → (¬ ((mScr G x4.toNatClampNeg) &&& 63) = 2) → (¬ ((mScr G x4.toNatClampNeg) &&& 63) = 3) → (¬ ((mScr G x4.toNatClampNeg) &&& 63) = 4) → (¬ ((mScr G x4.toNatClampNeg) &&& 63) = 5) → (¬ ((mScr G x4.toNatClampNeg) &&& 63) = 6) → (¬ ((mScr G x4.toNatClampNeg) &&& 63) = 7) → (¬ ((mScr G x4.toNatClampNeg) &&& 63) = 8) → (¬ ((mScr G x4.toNatClampNeg) &&& 63) = 9) → (¬ ((mScr G x4.toNatClampNeg) &&& 63) = 10) → (((mScr G x4.toNatClampNeg) &&& 63) = 11) → mW G (mL_law nm) 11 kc ks 829 [(0, .ref (G.2.2.2 5)), (1, .ref a1), (2, .ref a2), (3, .ref a3), (4, .int x4)] [] w Φ) (k14 : (¬ (((nI (G.2.2.2 6)) - 5) < x4)) → (¬ ((mScr G x4.toNatClampNeg) &&& 63) = 0) → (¬ ((mScr G x4.toNatClampNeg) &&& 63) = 1) → (¬ ((mScr G x4.toNatClampNeg) &&& 63) = 2) → (¬ ((mScr G x4.toNatClampNeg) &&& 63) = 3) → (¬ ((mScr G x4.toNatClampNeg) &&& 63) = 4) → (¬ ((mScr G x4.toNatClampNeg) &&& 63) = 5) → (¬ ((mScr G x4.toNatClampNeg) &&& 63) = 6) → (¬ ((mScr G x4.toNatClampNeg) &&& 63) = 7) → (¬ ((mScr G x4.toNatClampNeg) &&& 63) = 8) → (¬ ((mScr G x4.toNatClampNeg) &&& 63) = 9) → (¬ ((mScr G x4.toNatClampNeg) &&& 63) = 10) → (¬ ((mScr G x4.toNatClampNeg) &&& 63) = 11) → (((mScr G x4.toNatClampNeg) &&& 63) = 12) → mW G (mL_law nm) 11 kc ks 885 [(0, .ref (G.2.2.2 5)), (1, .ref a1), (2, .ref a2), (3, .ref a3), (4, .int x4)] [] w Φ) (k15 : (¬ (((nI (G.2.2.2 6)) - 5) < x4)) → (¬ ((mScr G x4.toNatClampNeg) &&& 63) = 0) → (¬ ((mScr G x4.toNatClampNeg) &&& 63) = 1) → (¬ ((mScr G x4.toNatClampNeg) &&& 63) = 2) → (¬ ((mScr G x4.toNatClampNeg) &&& 63) = 3) → (¬ ((mScr G x4.toNatClampNeg) &&& 63) = 4) → (¬ ((mScr G x4.toNatClampNeg) &&& 63) = 5) → (¬ ((mScr G x4.toNatClampNeg) &&& 63) = 6) → (¬ ((mScr G x4.toNatClampNeg) &&& 63) = 7) → (¬ ((mScr G x4.toNatClampNeg) &&& 63) = 8) → (¬ ((mScr G x4.toNatClampNeg) &&& 63) = 9) → (¬ ((mScr G x4.toNatClampNeg) &&& 63) = 10) → (¬ ((mScr G x4.toNatClampNeg) &&& 63) = 11) → (¬ ((mScr G x4.toNatClampNeg) &&& 63) = 12) → (((mScr G x4.toNatClampNeg) &&& 63) = 13) → mW G (mL_law nm) 11 kc ks 941 [(0, .ref (G.2.2.2 5)), (1, .ref a1), (2, .ref a2), (3, .ref a3), (4, .int x4)] [] w Φ) (k16 : (¬ (((nI (G.2.2.2 6)) - 5) < x4)) → (¬ ((mScr G x4.toNatClampNeg) &&& 63) = 0) → (¬ ((mScr G x4.toNatClampNeg) &&& 63) = 1) → (¬ ((mScr G x4.toNatClampNeg) &&& 63) = 2) → (¬ ((mScr G x4.toNatClampNeg) &&& 63) = 3) → (¬ ((mScr G x4.toNatClampNeg) &&& 63) = 4) → (¬ ((mScr G x4.toNatClampNeg) &&& 63) = 5) → (¬ ((mScr G x4.toNatClampNeg) &&& 63) = 6) → (¬ ((mScr G x4.toNatClampNeg) &&& 63) = 7) → (¬ ((mScr G x4.toNatClampNeg) &&& 63) = 8) → (¬ ((mScr G x4.toNatClampNeg) &&& 63) = 9) → (¬ ((mScr G x4.toNatClampNeg) &&& 63) = 10) → (¬ ((mScr G x4.toNatClampNeg) &&& 63) = 11) → (¬ ((mScr G x4.toNatClampNeg) &&& 63) = 12) → (¬ ((mScr G x4.toNatClampNeg) &&& 63) = 13) → (((mScr G x4.toNatClampNeg) &&& 63) = 14) → mW G (mL_law nm) 11 kc ks 997 [(0, .ref (G.2.2.2 5)), (1, .ref a1), (2, .ref a2), (3, .ref a3), (4, .int x4)] [] w Φ) (k17 : (¬ (((nI (G.2.2.2 6)) - 5) < x4)) → (¬ ((mScr G x4.toNatClampNeg) &&& 63) = 0) → (¬ ((mScr G x4.toNatClampNeg) &&& 63) = 1) → (¬ ((mScr G x4.toNatClampNeg) &&& 63) = 2) → (¬ ((mScr G x4.toNatClampNeg) &&& 63) = 3) → (¬ ((mScr G x4.toNatClampNeg) &&& 63) = 4) → (¬ ((mScr G x4.toNatClampNeg) &&& 63) = 5) → (¬ ((mScr G x4.toNatClampNeg) &&& 63) = 6) → (¬ ((mScr G x4.toNatClampNeg) &&& 63) = 7) → (¬ ((mScr G x4.toNatClampNeg) &&& 63) = 8) → (¬ ((mScr G x4.toNatClampNeg) &&& 63) = 9) → (¬ ((mScr G x4.toNatClampNeg) &&& 63) = 10) → (¬ ((mScr G x4.toNatClampNeg) &&& 63) = 11) → (¬ ((mScr G x4.toNatClampNeg) &&& 63) = 12) → (¬ ((mScr G x4.toNatClampNeg) &&& 63) = 13) → (¬ ((mScr G x4.toNatClampNeg) &&& 63) = 14) → (((mScr G x4.toNatClampNeg) &&& 63) = 15) → mW G (mL_law nm) 11 kc ks 1010 [(0, .ref (G.2.2.2 5)), (1, .ref a1), (2, .ref a2), (3, .ref a3), (4, .int x4)] [] w Φ) (k18 : (¬ (((nI (G.2.2.2 6)) - 5) < x4)) → (¬ ((mScr G x4.toNatClampNeg) &&& 63) = 0) → (¬ ((mScr G x4.toNatClampNeg) &&& 63) = 1) → (¬ ((mScr G x4.toNatClampNeg) &&& 63) = 2) → (¬ ((mScr G x4.toNatClampNeg) &&& 63) = 3) → (¬ ((mScr G x4.toNatClampNeg) &&& 63) = 4) → (¬ ((mScr G x4.toNatClampNeg) &&& 63) = 5) → (¬ ((mScr G x4.toNatClampNeg) &&& 63) = 6) → (¬ ((mScr G x4.toNatClampNeg) &&& 63) = 7) → (¬ ((mScr G x4.toNatClampNeg) &&& 63) = 8) → (¬ ((mScr G x4.toNatClampNeg) &&& 63) = 9) → (¬ ((mScr G x4.toNatClampNeg) &&& 63) = 10) → (¬ ((mScr G x4.toNatClampNeg) &&& 63) = 11) → (¬ ((mScr G x4.toNatClampNeg) &&& 63) = 12) → (¬ ((mScr G x4.toNatClampNeg) &&& 63) = 13) → (¬ ((mScr G x4.toNatClampNeg) &&& 63) = 14) → (¬ ((mScr G x4.toNatClampNeg) &&& 63) = 15) → (((mScr G x4.toNatClampNeg) &&& 63) = 16) → mW G (mL_law nm) 11 kc ks 1078 [(0, .ref (G.2.2.2 5)), (1, .ref a1), (2, .ref a2), (3, .ref a3), (4, .int x4)] [] w Φ) (k19 : (¬ (((nI (G.2.2.2 6)) - 5) < x4)) → (¬ ((mScr G x4.toNatClampNeg) &&& 63) = 0) → (¬ ((mScr G x4.toNatClampNeg) &&& 63) = 1) → (¬ ((mScr G x4.toNatClampNeg) &&& 63) = 2) → (¬ ((mScr G x4.toNatClampNeg) &&& 63) = 3) → (¬ ((mScr G x4.toNatClampNeg) &&& 63) = 4) → (¬ ((mScr G x4.toNatClampNeg) &&& 63) = 5) → (¬ ((mScr G x4.toNatClampNeg) &&& 63) = 6) → (¬ ((mScr G x4.toNatClampNeg) &&& 63) = 7) → (¬ ((mScr G x4.toNatClampNeg) &&& 63) = 8) → (¬ ((mScr G x4.toNatClampNeg) &&& 63) = 9) → (¬ ((mScr G x4.toNatClampNeg) &&& 63) = 10) → (¬ ((mScr G x4.toNatClampNeg) &&& 63) = 11) → (¬ ((mScr G x4.toNatClampNeg) &&& 63) = 12) → (¬ ((mScr G x4.toNatClampNeg) &&& 63) = 13) → (¬ ((mScr G x4.toNatClampNeg) &&& 63) = 14) → (¬ ((mScr G x4.toNatClampNeg) &&& 63) = 15) → (¬ ((mScr G x4.toNatClampNeg) &&& 63) = 16) → (((mScr G x4.toNatClampNeg) &&& 63) = 17) → mW G (mL_law nm) 11 kc ks 1134 [(0, .ref (G.2.2.2 5)), (1, .ref a1), (2, .ref a2), (3, .ref a3), (4, .int x4)] [] w Φ) (k20 : (¬ (((nI (G.2.2.2 6)) - 5) < x4)) → (¬ ((mScr G x4.toNatClampNeg) &&& 63) = 0) → (¬ ((mScr G x4.toNatClampNeg) &&& 63) = 1) → (¬ ((mScr G x4.toNatClampNeg) &&& 63) = 2) → (¬ ((mScr G x4.toNatClampNeg) &&& 63) = 3) → (¬ ((mScr G x4.toNatClampNeg) &&& 63) = 4) → (¬ ((mScr G x4.toNatClampNeg) &&& 63) = 5) → (¬ ((mScr G x4.toNatClampNeg) &&& 63) = 6) → (¬ ((mScr G x4.toNatClampNeg) &&& 63) = 7) → (¬ ((mScr G x4.toNatClampNeg) &&& 63) = 8) → (¬ ((mScr G x4.toNatClampNeg) &&& 63) = 9) → (¬ ((mScr G x4.toNatClampNeg) &&& 63) = 10) → (¬ ((mScr G x4.toNatClampNeg) &&& 63) = 11) → (¬ ((mScr G x4.toNatClampNeg) &&& 63) = 12) → (¬ ((mScr G x4.toNatClampNeg) &&& 63) = 13) → (¬ ((mScr G x4.toNatClampNeg) &&& 63) = 14) → (¬ ((mScr G x4.toNatClampNeg) &&& 63) = 15) → (¬ ((mScr G x4.toNatClampNeg) &&& 63) = 16) → (¬ ((mScr G x4.toNatClampNeg) &&& 63) = 17) → (((mScr G x4.toNatClampNeg) &&& 63) = 18) → mW G (mL_law nm) 11 kc ks 1177 [(0, .ref (G.2.2.2 5)), (1, .ref a1), (2, .ref a2), (3, .ref a3), (4, .int x4)] [] w Φ) (k21 : (¬ (((nI (G.2.2.2 6)) - 5) < x4)) → (¬ ((mScr G x4.toNatClampNeg) &&& 63) = 0) → (¬ ((mScr G x4.toNatClampNeg) &&& 63) = 1) → (¬ ((mScr G x4.toNatClampNeg) &&& 63) = 2) → (¬ ((mScr G x4.toNatClampNeg) &&& 63) = 3) → (¬ ((mScr G x4.toNatClampNeg) &&& 63) = 4) → (¬ ((mScr G x4.toNatClampNeg) &&& 63) = 5) → (¬ ((mScr G x4.toNatClampNeg) &&& 63) = 6) → (¬ ((mScr G x4.toNatClampNeg) &&& 63) = 7) → (¬ ((mScr G x4.toNatClampNeg) &&& 63) = 8) → (¬ ((mScr G x4.toNatClampNeg) &&& 63) = 9) → (¬ ((mScr G x4.toNatClampNeg) &&& 63) = 10) → (¬ ((mScr G x4.toNatClampNeg) &&& 63) = 11) → (¬ ((mScr G x4.toNatClampNeg) &&& 63) = 12) → (¬ ((mScr G x4.toNatClampNeg) &&& 63) = 13) → (¬ ((mScr G x4.toNatClampNeg) &&& 63) = 14) → (¬ ((mScr G x4.toNatClampNeg) &&& 63) = 15) → (¬ ((mScr G x4.toNatClampNeg) &&& 63) = 16) → (¬ ((mScr G x4.toNatClampNeg) &&& 63) = 17) → (¬ ((mScr G x4.toNatClampNeg) &&& 63) = 18) → (((mScr G x4.toNatClampNeg) &&& 63) = 19) → mW G (mL_law nm) 11 kc ks 1233 [(0, .ref (G.2.2.2 5)), (1, .ref a1), (2, .ref a2), (3, .ref a3), (4, .int x4)] [] w Φ) (k22 : (¬ (((nI (G.2.2.2 6)) - 5) < x4)) → (¬ ((mScr G x4.toNatClampNeg) &&& 63) = 0) → (¬ ((mScr G x4.toNatClampNeg) &&& 63) = 1) → (¬ ((mScr G x4.toNatClampNeg) &&& 63) = 2) → (¬ ((mScr G x4.toNatClampNeg) &&& 63) = 3) → (¬ ((mScr G x4.toNatClampNeg) &&& 63) = 4) → (¬ ((mScr G x4.toNatClampNeg) &&& 63) = 5) → (¬ ((mScr G x4.toNatClampNeg) &&& 63) = 6) → (¬ ((mScr G x4.toNatClampNeg) &&& 63) = 7) → (¬ ((mScr G x4.toNatClampNeg) &&& 63) = 8) → (¬ ((mScr G x4.toNatClampNeg) &&& 63) = 9) → (¬ ((mScr G x4.toNatClampNeg) &&& 63) = 10) → (¬ ((mScr G x4.toNatClampNeg) &&& 63) = 11) → (¬ ((mScr G x4.toNatClampNeg) &&& 63) = 12) → (¬ ((mScr G x4.toNatClampNeg) &&& 63) = 13) → (¬ ((mScr G x4.toNatClampNeg) &&& 63) = 14) → (¬ ((mScr G x4.toNatClampNeg) &&& 63) = 15) → (¬ ((mScr G x4.toNatClampNeg) &&& 63) = 16) → (¬ ((mScr G x4.toNatClampNeg) &&& 63) = 17) → (¬ ((mScr G x4.toNatClampNeg) &&& 63) = 18) → (¬ ((mScr G x4.toNatClampNeg) &&& 63) = 19) → (((mScr G x4.toNatClampNeg) &&& 63) = 20) → mW G (mL_law nm) 11 kc ks 1276 [(0, .ref (G.2.2.2 5)), (1, .ref a1), (2, .ref a2), (3, .ref a3), (4, .int x4)] [] w Φ) (k23 : (¬ (((nI (G.2.2.2 6)) - 5) < x4)) → (¬ ((mScr G x4.toNatClampNeg) &&& 63) = 0) → (¬ ((mScr G x4.toNatClampNeg) &&& 63) = 1) → (¬ ((mScr G x4.toNatClampNeg) &&& 63) = 2) → (¬ ((mScr G x4.toNatClampNeg) &&& 63) = 3) → (¬ ((mScr G x4.toNatClampNeg) &&& 63) = 4) → (¬ ((mScr G x4.toNatClampNeg) &&& 63) = 5) → (¬ ((mScr G x4.toNatClampNeg) &&& 63) = 6) → (¬ ((mScr G x4.toNatClampNeg) &&& 63) = 7) → (¬ ((mScr G x4.toNatClampNeg) &&& 63) = 8) → (¬ ((mScr G x4.toNatClampNeg) &&& 63) = 9) → (¬ ((mScr G x4.toNatClampNeg) &&& 63) = 10) → (¬ ((mScr G x4.toNatClampNeg) &&& 63) = 11) → (¬ ((mScr G x4.toNatClampNeg) &&& 63) = 12) → (¬ ((mScr G x4.toNatClampNeg) &&& 63) = 13) → (¬ ((mScr G x4.toNatClampNeg) &&& 63) = 14) → (¬ ((mScr G x4.toNatClampNeg) &&& 63) = 15) → (¬ ((mScr G x4.toNatClampNeg) &&& 63) = 16) → (¬ ((mScr G x4.toNatClampNeg) &&& 63) = 17) → (¬ ((mScr G x4.toNatClampNeg) &&& 63) = 18) → (¬ ((mScr G x4.toNatClampNeg) &&& 63) = 19) → (¬ ((mScr G x4.toNatClampNeg) &&& 63) = 20) → (((mScr G x4.toNatClampNeg) &&& 63) = 21) → mW G (mL_law nm) 11 kc ks 1320 [(0, .ref (G.2.2.2 5)), (1, .ref a1), (2, .ref a2), (3, .ref a3), (4, .int x4)] [] w Φ) (k24 : (¬ (((nI (G.2.2.2 6)) - 5) < x4)) → (¬ ((mScr G x4.toNatClampNeg) &&& 63) = 0) → (¬ ((mScr G x4.toNatClampNeg) &&& 63) = 1) → (¬ ((mScr G x4.toNatClampNeg) &&& 63) = 2) → (¬ ((mScr G x4.toNatClampNeg) &&& 63) = 3) → (¬ ((mScr G x4.toNatClampNeg) &&& 63) = 4) → (¬ ((mScr G x4.toNatClampNeg) &&& 63) = 5) → (¬ ((mScr G x4.toNatClampNeg) &&& 63) = 6) → (¬ ((mScr G x4.toNatClampNeg) &&& 63) = 7) → (¬ ((mScr G x4.toNatClampNeg) &&& 63) = 8) → (¬ ((mScr G x4.toNatClampNeg) &&& 63) = 9) → (¬ ((mScr G x4.toNatClampNeg) &&& 63) = 10) → (¬ ((mScr G x4.toNatClampNeg) &&& 63) = 11) → (¬ ((mScr G x4.toNatClampNeg) &&& 63) = 12) → (¬ ((mScr G x4.toNatClampNeg) &&& 63) = 13) → (¬ ((mScr G x4.toNatClampNeg) &&& 63) = 14) → (¬ ((mScr G x4.toNatClampNeg) &&& 63) = 15) → (¬ ((mScr G x4.toNatClampNeg) &&& 63) = 16) → (¬ ((mScr G x4.toNatClampNeg) &&& 63) = 17) → (¬ ((mScr G x4.toNatClampNeg) &&& 63) = 18) → (¬ ((mScr G x4.toNatClampNeg) &&& 63) = 19) → (¬ ((mScr G x4.toNatClampNeg) &&& 63) = 20) → (¬ ((mScr G x4.toNatClampNeg) &&& 63) = 21) → (((mScr G x4.toNatClampNeg) &&& 63) = 22) → mW G (mL_law nm) 11 kc ks 1364 [(0, .ref (G.2.2.2 5)), (1, .ref a1), (2, .ref a2), (3, .ref a3), (4, .int x4)] [] w Φ) (k25 : (¬ (((nI (G.2.2.2 6)) - 5) < x4)) → (¬ ((mScr G x4.toNatClampNeg) &&& 63) = 0) → (¬ ((mScr G x4.toNatClampNeg) &&& 63) = 1) → (¬ ((mScr G x4.toNatClampNeg) &&& 63) = 2) → (¬ ((mScr G x4.toNatClampNeg) &&& 63) = 3) → (¬ ((mScr G x4.toNatClampNeg) &&& 63) = 4) → (¬ ((mScr G x4.toNatClampNeg) &&& 63) = 5) → (¬ ((mScr G x4.toNatClampNeg) &&& 63) = 6) → (¬ ((mScr G x4.toNatClampNeg) &&& 63) = 7) → (¬ ((mScr G x4.toNatClampNeg) &&& 63) = 8) → (¬ ((mScr G x4.toNatClampNeg) &&& 63) = 9) → (¬ ((mScr G x4.toNatClampNeg) &&& 63) = 10) → (¬ ((mScr G x4.toNatClampNeg) &&& 63) = 11) → (¬ ((mScr G x4.toNatClampNeg) &&& 63) = 12) → (¬ ((mScr G x4.toNatClampNeg) &&& 63) = 13) → (¬ ((mScr G x4.toNatClampNeg) &&& 63) = 14) → (¬ ((mScr G x4.toNatClampNeg) &&& 63) = 15) → (¬ ((mScr G x4.toNatClampNeg) &&& 63) = 16) → (¬ ((mScr G x4.toNatClampNeg) &&& 63) = 17) → (¬ ((mScr G x4.toNatClampNeg) &&& 63) = 18) → (¬ ((mScr G x4.toNatClampNeg) &&& 63) = 19) → (¬ ((mScr G x4.toNatClampNeg) &&& 63) = 20) → (¬ ((mScr G x4.toNatClampNeg) &&& 63) = 21) → (¬ ((mScr G x4.toNatClampNeg) &&& 63) = 22) → (((mScr G x4.toNatClampNeg) &&& 63) = 23) → mW G (mL_law nm) 11 kc ks 1420 [(0, .ref (G.2.2.2 5)), (1, .ref a1), (2, .ref a2), (3, .ref a3), (4, .int x4)] [] w Φ) (k26 : (¬ (((nI (G.2.2.2 6)) - 5) < x4)) → (¬ ((mScr G x4.toNatClampNeg) &&& 63) = 0) → (¬ ((mScr G x4.toNatClampNeg) &&& 63) = 1) → (¬ ((mScr G x4.toNatClampNeg) &&& 63) = 2) → (¬ ((mScr G x4.toNatClampNeg) &&& 63) = 3) → (¬ ((mScr G x4.toNatClampNeg) &&& 63) = 4) → (¬ ((mScr G x4.toNatClampNeg) &&& 63) = 5) → (¬ ((mScr G x4.toNatClampNeg) &&& 63) = 6) → (¬ ((mScr G x4.toNatClampNeg) &&& 63) = 7) → (¬ ((mScr G x4.toNatClampNeg) &&& 63) = 8) → (¬ ((mScr G x4.toNatClampNeg) &&& 63) = 9) → (¬ ((mScr G x4.toNatClampNeg) &&& 63) = 10) → (¬ ((mScr G x4.toNatClampNeg) &&& 63) = 11) → (¬ ((mScr G x4.toNatClampNeg) &&& 63) = 12) → (¬ ((mScr G x4.toNatClampNeg) &&& 63) = 13) → (¬ ((mScr G x4.toNatClampNeg) &&& 63) = 14) → (¬ ((mScr G x4.toNatClampNeg) &&& 63) = 15) → (¬ ((mScr G x4.toNatClampNeg) &&& 63) = 16) → (¬ ((mScr G x4.toNatClampNeg) &&& 63) = 17) → (¬ ((mScr G x4.toNatClampNeg) &&& 63) = 18) → (¬ ((mScr G x4.toNatClampNeg) &&& 63) = 19) → (¬ ((mScr G x4.toNatClampNeg) &&& 63) = 20) → (¬ ((mScr G x4.toNatClampNeg) &&& 63) = 21) → (¬ ((mScr G x4.toNatClampNeg) &&& 63) = 22) → (¬ ((mScr G x4.toNatClampNeg) &&& 63) = 23) → (((mScr G x4.toNatClampNeg) &&& 63) = 24) → mW G (mL_law nm) 11 kc ks 1433 [(0, .ref (G.2.2.2 5)), (1, .ref a1), (2, .ref a2), (3, .ref a3), (4, .int x4)] [] w Φ) (k27 : (¬ (((nI (G.2.2.2 6)) - 5) < x4)) → (¬ ((mScr G x4.toNatClampNeg) &&& 63) = 0) → (¬ ((mScr G x4.toNatClampNeg) &&& 63) = 1) → (¬ ((mScr G x4.toNatClampNeg) &&& 63) = 2) → (¬ ((mScr G x4.toNatClampNeg) &&& 63) = 3) → (¬ ((mScr G x4.toNatClampNeg) &&& 63) = 4) → (¬ ((mScr G x4.toNatClampNeg) &&& 63) = 5) → (¬ ((mScr G x4.toNatClampNeg) &&& 63) = 6) → (¬ ((mScr G x4.toNatClampNeg) &&& 63) = 7) → (¬ ((mScr G x4.toNatClampNeg) &&& 63) = 8) → (¬ ((mScr G x4.toNatClampNeg) &&& 63) = 9) → (¬ ((mScr G x4.toNatClampNeg) &&& 63) = 10) → (¬ ((mScr G x4.toNatClampNeg) &&& 63) = 11) → (¬ ((mScr G x4.toNatClampNeg) &&& 63) = 12) → (¬ ((mScr G x4.toNatClampNeg) &&& 63) = 13) → (¬ ((mScr G x4.toNatClampNeg) &&& 63) = 14) → (¬ ((mScr G x4.toNatClampNeg) &&& 63) = 15) → (¬ ((mScr G x4.toNatClampNeg) &&& 63) = 16) → (¬ ((mScr G x4.toNatClampNeg) &&& 63) = 17) → (¬ ((mScr G x4.toNatClampNeg) &&& 63) = 18) → (¬ ((mScr G x4.toNatClampNeg) &&& 63) = 19) → (¬ ((mScr G x4.toNatClampNeg) &&& 63) = 20) → (¬ ((mScr G x4.toNatClampNeg) &&& 63) = 21) → (¬ ((mScr G x4.toNatClampNeg) &&& 63) = 22) → (¬ ((mScr G x4.toNatClampNeg) &&& 63) = 23) → (¬ ((mScr G x4.toNatClampNeg) &&& 63) = 24) → (((mScr G x4.toNatClampNeg) &&& 63) = 25) → mW G (mL_law nm) 11 kc ks 1446 [(0, .ref (G.2.2.2 5)), (1, .ref a1), (2, .ref a2), (3, .ref a3), (4, .int x4)] [] w Φ) (k28 : (¬ (((nI (G.2.2.2 6)) - 5) < x4)) → (¬ ((mScr G x4.toNatClampNeg) &&& 63) = 0) → (¬ ((mScr G x4.toNatClampNeg) &&& 63) = 1) → (¬ ((mScr G x4.toNatClampNeg) &&& 63) = 2) → (¬ ((mScr G x4.toNatClampNeg) &&& 63) = 3) → (¬ ((mScr G x4.toNatClampNeg) &&& 63) = 4) → (¬ ((mScr G x4.toNatClampNeg) &&& 63) = 5) → (¬ ((mScr G x4.toNatClampNeg) &&& 63) = 6) → (¬ ((mScr G x4.toNatClampNeg) &&& 63) = 7) → (¬ ((mScr G x4.toNatClampNeg) &&& 63) = 8) → (¬ ((mScr G x4.toNatClampNeg) &&& 63) = 9) → (¬ ((mScr G x4.toNatClampNeg) &&& 63) = 10) → (¬ ((mScr G x4.toNatClampNeg) &&& 63) = 11) → (¬ ((mScr G x4.toNatClampNeg) &&& 63) = 12) → (¬ ((mScr G x4.toNatClampNeg) &&& 63) = 13) → (¬ ((mScr G x4.toNatClampNeg) &&& 63) = 14) → (¬ ((mScr G x4.toNatClampNeg) &&& 63) = 15) → (¬ ((mScr G x4.toNatClampNeg) &&& 63) = 16) → (¬ ((mScr G x4.toNatClampNeg) &&& 63) = 17) → (¬ ((mScr G x4.toNatClampNeg) &&& 63) = 18) → (¬ ((mScr G x4.toNatClampNeg) &&& 63) = 19) → (¬ ((mScr G x4.toNatClampNeg) &&& 63) = 20) → (¬ ((mScr G x4.toNatClampNeg) &&& 63) = 21) → (¬ ((mScr G x4.toNatClampNeg) &&& 63) = 22) → (¬ ((mScr G x4.toNatClampNeg) &&& 63) = 23) → (¬ ((mScr G x4.toNatClampNeg) &&& 63) = 24) → (¬ ((mScr G x4.toNatClampNeg) &&& 63) = 25) → (((mScr G x4.toNatClampNeg) &&& 63) = 26) → mW G (mL_law nm) 11 kc ks 1530 [(0, .ref (G.2.2.2 5)), (1, .ref a1), (2, .ref a2), (3, .ref a3), (4, .int x4)] [] w Φ) (k29 : (¬ (((nI (G.2.2.2 6)) - 5) < x4)) → (¬ ((mScr G x4.toNatClampNeg) &&& 63) = 0) → (¬ ((mScr G x4.toNatClampNeg) &&& 63) = 1) → (¬ ((mScr G x4.toNatClampNeg) &&& 63) = 2) → (¬ ((mScr G x4.toNatClampNeg) &&& 63) = 3) → (¬ ((mScr G x4.toNatClampNeg) &&& 63) = 4) → (¬ ((mScr G x4.toNatClampNeg) &&& 63) = 5) → (¬ ((mScr G x4.toNatClampNeg) &&& 63) = 6) → (¬ ((mScr G x4.toNatClampNeg) &&& 63) = 7) → (¬ ((mScr G x4.toNatClampNeg) &&& 63) = 8) → (¬ ((mScr G x4.toNatClampNeg) &&& 63) = 9) → (¬ ((mScr G x4.toNatClampNeg) &&& 63) = 10) → (¬ ((mScr G x4.toNatClampNeg) &&& 63) = 11) → (¬ ((mScr G x4.toNatClampNeg) &&& 63) = 12) → (¬ ((mScr G x4.toNatClampNeg) &&& 63) = 13) → (¬ ((mScr G x4.toNatClampNeg) &&& 63) = 14) → (¬ ((mScr G x4.toNatClampNeg) &&& 63) = 15) → (¬ ((mScr G x4.toNatClampNeg) &&& 63) = 16) → (¬ ((mScr G x4.toNatClampNeg) &&& 63) = 17) → (¬ ((mScr G x4.toNatClampNeg) &&& 63) = 18) → (¬ ((mScr G x4.toNatClampNeg) &&& 63) = 19) → (¬ ((mScr G x4.toNatClampNeg) &&& 63) = 20) → (¬ ((mScr G x4.toNatClampNeg) &&& 63) = 21) → (¬ ((mScr G x4.toNatClampNeg) &&& 63) = 22) → (¬ ((mScr G x4.toNatClampNeg) &&& 63) = 23) → (¬ ((mScr G x4.toNatClampNeg) &&& 63) = 24) → (¬ ((mScr G x4.toNatClampNeg) &&& 63) = 25) → (¬ ((mScr G x4.toNatClampNeg) &&& 63) = 26) → (((mScr G x4.toNatClampNeg) &&& 63) = 27) → mW G (mL_law nm) 11 kc ks 1601 [(0, .ref (G.2.2.2 5)), (1, .ref a1), (2, .ref a2), (3, .ref a3), (4, .int x4)] [] w Φ) (k30 : (¬ (((nI (G.2.2.2 6)) - 5) < x4)) → (¬ ((mScr G x4.toNatClampNeg) &&& 63) = 0) → (¬ ((mScr G x4.toNatClampNeg) &&& 63) = 1) → (¬ ((mScr G x4.toNatClampNeg) &&& 63) = 2) → (¬ ((mScr G x4.toNatClampNeg) &&& 63) = 3) → (¬ ((mScr G x4.toNatClampNeg) &&& 63) = 4) → (¬ ((mScr G x4.toNatClampNeg) &&& 63) = 5) → (¬ ((mScr G x4.toNatClampNeg) &&& 63) = 6) → (¬ ((mScr G x4.toNatClampNeg) &&& 63) = 7) → (¬ ((mScr G x4.toNatClampNeg) &&& 63) = 8) → (¬ ((mScr G x4.toNatClampNeg) &&& 63) = 9) → (¬ ((mScr G x4.toNatClampNeg) &&& 63) = 10) → (¬ ((mScr G x4.toNatClampNeg) &&& 63) = 11) → (¬ ((mScr G x4.toNatClampNeg) &&& 63) = 12) → (¬ ((mScr G x4.toNatClampNeg) &&& 63) = 13) → (¬ ((mScr G x4.toNatClampNeg) &&& 63) = 14) → (¬ ((mScr G x4.toNatClampNeg) &&& 63) = 15) → (¬ ((mScr G x4.toNatClampNeg) &&& 63) = 16) → (¬ ((mScr G x4.toNatClampNeg) &&& 63) = 17) → (¬ ((mScr G x4.toNatClampNeg) &&& 63) = 18) → (¬ ((mScr G x4.toNatClampNeg) &&& 63) = 19) → (¬ ((mScr G x4.toNatClampNeg) &&& 63) = 20) → (¬ ((mScr G x4.toNatClampNeg) &&& 63) = 21) → (¬ ((mScr G x4.toNatClampNeg) &&& 63) = 22) → (¬ ((mScr G x4.toNatClampNeg) &&& 63) = 23) → (¬ ((mScr G x4.toNatClampNeg) &&& 63) = 24) → (¬ ((mScr G x4.toNatClampNeg) &&& 63) = 25) → (¬ ((mScr G x4.toNatClampNeg) &&& 63) = 26) → (¬ ((mScr G x4.toNatClampNeg) &&& 63) = 27) → (((mScr G x4.toNatClampNeg) &&& 63) = 28) → mW G (mL_law nm) 11 kc ks 1673 [(0, .ref (G.2.2.2 5)), (1, .ref a1), (2, .ref a2), (3, .ref a3), (4, .int x4)] [] w Φ) (k31 : (¬ (((nI (G.2.2.2 6)) - 5) < x4)) → (¬ ((mScr G x4.toNatClampNeg) &&& 63) = 0) → (¬ ((mScr G x4.toNatClampNeg) &&& 63) = 1) → (¬ ((mScr G x4.toNatClampNeg) &&& 63) = 2) → (¬ ((mScr G x4.toNatClampNeg) &&& 63) = 3) → (¬ ((mScr G x4.toNatClampNeg) &&& 63) = 4) → (¬ ((mScr G x4.toNatClampNeg) &&& 63) = 5) → (¬ ((mScr G x4.toNatClampNeg) &&& 63) = 6) → (¬ ((mScr G x4.toNatClampNeg) &&& 63) = 7) → (¬ ((mScr G x4.toNatClampNeg) &&& 63) = 8) → (¬ ((mScr G x4.toNatClampNeg) &&& 63) = 9) → (¬ ((mScr G x4.toNatClampNeg) &&& 63) = 10) → (¬ ((mScr G x4.toNatClampNeg) &&& 63) = 11) → (¬ ((mScr G x4.toNatClampNeg) &&& 63) = 12) → (¬ ((mScr G x4.toNatClampNeg) &&& 63) = 13) → (¬ ((mScr G x4.toNatClampNeg) &&& 63) = 14) → (¬ ((mScr G x4.toNatClampNeg) &&& 63) = 15) → (¬ ((mScr G x4.toNatClampNeg) &&& 63) = 16) → (¬ ((mScr G x4.toNatClampNeg) &&& 63) = 17) → (¬ ((mScr G x4.toNatClampNeg) &&& 63) = 18) → (¬ ((mScr G x4.toNatClampNeg) &&& 63) = 19) → (¬ ((mScr G x4.toNatClampNeg) &&& 63) = 20) → (¬ ((mScr G x4.toNatClampNeg) &&& 63) = 21) → (¬ ((mScr G x4.toNatClampNeg) &&& 63) = 22) → (¬ ((mScr G x4.toNatClampNeg) &&& 63) = 23) → (¬ ((mScr G x4.toNatClampNeg) &&& 63) = 24) → (¬ ((mScr G x4.toNatClampNeg) &&& 63) = 25) → (¬ ((mScr G x4.toNatClampNeg) &&& 63) = 26) → (¬ ((mScr G x4.toNatClampNeg) &&& 63) = 27) → (¬ ((mScr G x4.toNatClampNeg) &&& 63) = 28) → (((mScr G x4.toNatClampNeg) &&& 63) = 29) → mW G (mL_law nm) 11 kc ks 1773 [(0, .ref (G.2.2.2 5)), (1, .ref a1), (2, .ref a2), (3, .ref a3), (4, .int x4)] [] w Φ) (k32 : (¬ (((nI (G.2.2.2 6)) - 5) < x4)) → (¬ ((mScr G x4.toNatClampNeg) &&& 63) = 0) → (¬ ((mScr G x4.toNatClampNeg) &&& 63) = 1) → (¬ ((mScr G x4.toNatClampNeg) &&& 63) = 2) → (¬ ((mScr G x4.toNatClampNeg) &&& 63) = 3) → (¬ ((mScr G x4.toNatClampNeg) &&& 63) = 4) → (¬ ((mScr G x4.toNatClampNeg) &&& 63) = 5) → (¬ ((mScr G x4.toNatClampNeg) &&& 63) = 6) → (¬ ((mScr G x4.toNatClampNeg) &&& 63) = 7) → (¬ ((mScr G x4.toNatClampNeg) &&& 63) = 8) → (¬ ((mScr G x4.toNatClampNeg) &&& 63) = 9) → (¬ ((mScr G x4.toNatClampNeg) &&& 63) = 10) → (¬ ((mScr G x4.toNatClampNeg) &&& 63) = 11) → (¬ ((mScr G x4.toNatClampNeg) &&& 63) = 12) → (¬ ((mScr G x4.toNatClampNeg) &&& 63) = 13) → (¬ ((mScr G x4.toNatClampNeg) &&& 63) = 14) → (¬ ((mScr G x4.toNatClampNeg) &&& 63) = 15) → (¬ ((mScr G x4.toNatClampNeg) &&& 63) = 16) → (¬ ((mScr G x4.toNatClampNeg) &&& 63) = 17) → (¬ ((mScr G x4.toNatClampNeg) &&& 63) = 18) → (¬ ((mScr G x4.toNatClampNeg) &&& 63) = 19) → (¬ ((mScr G x4.toNatClampNeg) &&& 63) = 20) → (¬ ((mScr G x4.toNatClampNeg) &&& 63) = 21) → (¬ ((mScr G x4.toNatClampNeg) &&& 63) = 22) → (¬ ((mScr G x4.toNatClampNeg) &&& 63) = 23) → (¬ ((mScr G x4.toNatClampNeg) &&& 63) = 24) → (¬ ((mScr G x4.toNatClampNeg) &&& 63) = 25) → (¬ ((mScr G x4.toNatClampNeg) &&& 63) = 26) → (¬ ((mScr G x4.toNatClampNeg) &&& 63) = 27) → (¬ ((mScr G x4.toNatClampNeg) &&& 63) = 28) → (¬ ((mScr G x4.toNatClampNeg) &&& 63) = 29) → (((mScr G x4.toNatClampNeg) &&& 63) = 30) → mW G (mL_law nm) 11 kc ks 1829 [(0, .ref (G.2.2.2 5)), (1, .ref a1), (2, .ref a2), (3, .ref a3), (4, .int x4)] [] w Φ) (k33 : (¬ (((nI (G.2.2.2 6)) - 5) < x4)) → (¬ ((mScr G x4.toNatClampNeg) &&& 63) = 0) → (¬ ((mScr G x4.toNatClampNeg) &&& 63) = 1) → (¬ ((mScr G x4.toNatClampNeg) &&& 63) = 2) → (¬ ((mScr G x4.toNatClampNeg) &&& 63) = 3) → (¬ ((mScr G x4.toNatClampNeg) &&& 63) = 4) → (¬ ((mScr G x4.toNatClampNeg) &&& 63) = 5) → (¬ ((mScr G x4.toNatClampNeg) &&& 63) = 6) → (¬ ((mScr G x4.toNatClampNeg) &&& 63) = 7) → (¬ ((mScr G x4.toNatClampNeg) &&& 63) = 8) → (¬ ((mScr G x4.toNatClampNeg) &&& 63) = 9) → (¬ ((mScr G x4.toNatClampNeg) &&& 63) = 10) → (¬ ((mScr G x4.toNatClampNeg) &&& 63) = 11) → (¬ ((mScr G x4.toNatClampNeg) &&& 63) = 12) → (¬ ((mScr G x4.toNatClampNeg) &&& 63) = 13) → (¬ ((mScr G x4.toNatClampNeg) &&& 63) = 14) → (¬ ((mScr G x4.toNatClampNeg) &&& 63) = 15) → (¬ ((mScr G x4.toNatClampNeg) &&& 63) = 16) → (¬ ((mScr G x4.toNatClampNeg) &&& 63) = 17) → (¬ ((mScr G x4.toNatClampNeg) &&& 63) = 18) → (¬ ((mScr G x4.toNatClampNeg) &&& 63) = 19) → (¬ ((mScr G x4.toNatClampNeg) &&& 63) = 20) → (¬ ((mScr G x4.toNatClampNeg) &&& 63) = 21) → (¬ ((mScr G x4.toNatClampNeg) &&& 63) = 22) → (¬ ((mScr G x4.toNatClampNeg) &&& 63) = 23) → (¬ ((mScr G x4.toNatClampNeg) &&& 63) = 24) → (¬ ((mScr G x4.toNatClampNeg) &&& 63) = 25) → (¬ ((mScr G x4.toNatClampNeg) &&& 63) = 26) → (¬ ((mScr G x4.toNatClampNeg) &&& 63) = 27) → (¬ ((mScr G x4.toNatClampNeg) &&& 63) = 28) → (¬ ((mScr G x4.toNatClampNeg) &&& 63) = 29) → (¬ ((mScr G x4.toNatClampNeg) &&& 63) = 30) → (((mScr G x4.toNatClampNeg) &&& 63) = 31) → mW G (mL_law nm) 11 kc ks 1873 [(0, .ref (G.2.2.2 5)), (1, .ref a1), (2, .ref a2), (3, .ref a3), (4, .int x4)] [] w Φ) (k34 : (¬ (((nI (G.2.2.2 6)) - 5) < x4)) → (¬ ((mScr G x4.toNatClampNeg) &&& 63) = 0) → (¬ ((mScr G x4.toNatClampNeg) &&& 63) = 1) → (¬ ((mScr G x4.toNatClampNeg) &&& 63) = 2) → (¬ ((mScr G x4.toNatClampNeg) &&& 63) = 3) → (¬ ((mScr G x4.toNatClampNeg) &&& 63) = 4) → (¬ ((mScr G x4.toNatClampNeg) &&& 63) = 5) → (¬ ((mScr G x4.toNatClampNeg) &&& 63) = 6) → (¬ ((mScr G x4.toNatClampNeg) &&& 63) = 7) → (¬ ((mScr G x4.toNatClampNeg) &&& 63) = 8) → (¬ ((mScr G x4.toNatClampNeg) &&& 63) = 9) → (¬ ((mScr G x4.toNatClampNeg) &&& 63) = 10) → (¬ ((mScr G x4.toNatClampNeg) &&& 63) = 11) → (¬ ((mScr G x4.toNatClampNeg) &&& 63) = 12) → (¬ ((mScr G x4.toNatClampNeg) &&& 63) = 13) → (¬ ((mScr G x4.toNatClampNeg) &&& 63) = 14) → (¬ ((mScr G x4.toNatClampNeg) &&& 63) = 15) → (¬ ((mScr G x4.toNatClampNeg) &&& 63) = 16) → (¬ ((mScr G x4.toNatClampNeg) &&& 63) = 17) → (¬ ((mScr G x4.toNatClampNeg) &&& 63) = 18) → (¬ ((mScr G x4.toNatClampNeg) &&& 63) = 19) → (¬ ((mScr G x4.toNatClampNeg) &&& 63) = 20) → (¬ ((mScr G x4.toNatClampNeg) &&& 63) = 21) → (¬ ((mScr G x4.toNatClampNeg) &&& 63) = 22) → (¬ ((mScr G x4.toNatClampNeg) &&& 63) = 23) → (¬ ((mScr G x4.toNatClampNeg) &&& 63) = 24) → (¬ ((mScr G x4.toNatClampNeg) &&& 63) = 25) → (¬ ((mScr G x4.toNatClampNeg) &&& 63) = 26) → (¬ ((mScr G x4.toNatClampNeg) &&& 63) = 27) → (¬ ((mScr G x4.toNatClampNeg) &&& 63) = 28) → (¬ ((mScr G x4.toNatClampNeg) &&& 63) = 29) → (¬ ((mScr G x4.toNatClampNeg) &&& 63) = 30) → (¬ ((mScr G x4.toNatClampNeg) &&& 63) = 31) → (((mScr G x4.toNatClampNeg) &&& 63) = 32) → mW G (mL_law nm) 11 kc ks 1886 [(0, .ref (G.2.2.2 5)), (1, .ref a1), (2, .ref a2), (3, .ref a3), (4, .int x4)] [] w Φ) (k35 : (¬ (((nI (G.2.2.2 6)) - 5) < x4)) → (¬ ((mScr G x4.toNatClampNeg) &&& 63) = 0) → (¬ ((mScr G x4.toNatClampNeg) &&& 63) = 1) → (¬ ((mScr G x4.toNatClampNeg) &&& 63) = 2) → (¬ ((mScr G x4.toNatClampNeg) &&& 63) = 3) → (¬ ((mScr G x4.toNatClampNeg) &&& 63) = 4) → (¬ ((mScr G x4.toNatClampNeg) &&& 63) = 5) → (¬ ((mScr G x4.toNatClampNeg) &&& 63) = 6) → (¬ ((mScr G x4.toNatClampNeg) &&& 63) = 7) → (¬ ((mScr G x4.toNatClampNeg) &&& 63) = 8) → (¬ ((mScr G x4.toNatClampNeg) &&& 63) = 9) → (¬ ((mScr G x4.toNatClampNeg) &&& 63) = 10) → (¬ ((mScr G x4.toNatClampNeg) &&& 63) = 11) → (¬ ((mScr G x4.toNatClampNeg) &&& 63) = 12) → (¬ ((mScr G x4.toNatClampNeg) &&& 63) = 13) → (¬ ((mScr G x4.toNatClampNeg) &&& 63) = 14) → (¬ ((mScr G x4.toNatClampNeg) &&& 63) = 15) → (¬ ((mScr G x4.toNatClampNeg) &&& 63) = 16) → (¬ ((mScr G x4.toNatClampNeg) &&& 63) = 17) → (¬ ((mScr G x4.toNatClampNeg) &&& 63) = 18) → (¬ ((mScr G x4.toNatClampNeg) &&& 63) = 19) → (¬ ((mScr G x4.toNatClampNeg) &&& 63) = 20) → (¬ ((mScr G x4.toNatClampNeg) &&& 63) = 21) → (¬ ((mScr G x4.toNatClampNeg) &&& 63) = 22) → (¬ ((mScr G x4.toNatClampNeg) &&& 63) = 23) → (¬ ((mScr G x4.toNatClampNeg) &&& 63) = 24) → (¬ ((mScr G x4.toNatClampNeg) &&& 63) = 25) → (¬ ((mScr G x4.toNatClampNeg) &&& 63) = 26) → (¬ ((mScr G x4.toNatClampNeg) &&& 63) = 27) → (¬ ((mScr G x4.toNatClampNeg) &&& 63) = 28) → (¬ ((mScr G x4.toNatClampNeg) &&& 63) = 29) → (¬ ((mScr G x4.toNatClampNeg) &&& 63) = 30) → (¬ ((mScr G x4.toNatClampNeg) &&& 63) = 31) → (¬ ((mScr G x4.toNatClampNeg) &&& 63) = 32) → mW G (mL_law nm) 11 kc ks 1930 [(0, .ref (G.2.2.2 5)), (1, .ref a1), (2, .ref a2), (3, .ref a3), (4, .int x4)] [] w Φ) : mW G (mL_law nm) 11 kc ks 23 [(0, .ref (G.2.2.2 5)), (1, .ref a1), (2, .ref a2), (3, .ref a3), (4, .int x4)] [] w Φ := by
  refine mW_iload (j := 4) dL_law_23 rfl ?_
  refine mW_aload_n (j := 0) dL_law_25 rfl rfl ?_
  refine mW_scrlen dL_law_26 ?_
  refine mW_iconst (v := 5) dL_law_27 (by decide) ?_
  refine mW_isub dL_law_28 ?_
  refine mW_icmp_gt (tgt := 1936) dL_law_29 (by decide) (fun c1 => ?_) (fun c1 => ?_)
  · refine mW_iconst (v := 1) dL_law_1936 (by decide) ?_
    exact mW_zret (ty := .boolean) dL_law_1937 rfl (by first | rfl | decide) (k1 c1)
  · refine mW_aload_n (j := 0) dL_law_32 rfl rfl ?_
    refine mW_iload (j := 4) dL_law_33 rfl ?_
    refine mW_scr (i := x4) dL_law_35 (s1 c1) ?_
    refine mW_bipush (v := 63) dL_law_36 (by decide) ?_
    refine mW_iand dL_law_38 ?_
    by_cases c2 : ((mScr G x4.toNatClampNeg) &&& 63) = 0
    · refine mW_tabIn (off := 145) (tgt := 184) dL_law_39 (by rw [c2]; decide) (by rw [c2]; decide) (by rw [c2]; rfl) (by decide) ?_
      exact k2 c1 c2
    by_cases c3 : ((mScr G x4.toNatClampNeg) &&& 63) = 1
    · refine mW_tabIn (off := 213) (tgt := 252) dL_law_39 (by rw [c3]; decide) (by rw [c3]; decide) (by rw [c3]; rfl) (by decide) ?_
      exact k3 c1 c2 c3
    by_cases c4 : ((mScr G x4.toNatClampNeg) &&& 63) = 2
    · refine mW_tabIn (off := 269) (tgt := 308) dL_law_39 (by rw [c4]; decide) (by rw [c4]; decide) (by rw [c4]; rfl) (by decide) ?_
      exact k4 c1 c2 c3 c4
    by_cases c5 : ((mScr G x4.toNatClampNeg) &&& 63) = 3
    · refine mW_tabIn (off := 337) (tgt := 376) dL_law_39 (by rw [c5]; decide) (by rw [c5]; decide) (by rw [c5]; rfl) (by decide) ?_
      exact k5 c1 c2 c3 c4 c5
    by_cases c6 : ((mScr G x4.toNatClampNeg) &&& 63) = 4
    · refine mW_tabIn (off := 393) (tgt := 432) dL_law_39 (by rw [c6]; decide) (by rw [c6]; decide) (by rw [c6]; rfl) (by decide) ?_
      exact k6 c1 c2 c3 c4 c5 c6
    by_cases c7 : ((mScr G x4.toNatClampNeg) &&& 63) = 5
    · refine mW_tabIn (off := 461) (tgt := 500) dL_law_39 (by rw [c7]; decide) (by rw [c7]; decide) (by rw [c7]; rfl) (by decide) ?_
      exact k7 c1 c2 c3 c4 c5 c6 c7
    by_cases c8 : ((mScr G x4.toNatClampNeg) &&& 63) = 6
    · refine mW_tabIn (off := 517) (tgt := 556) dL_law_39 (by rw [c8]; decide) (by rw [c8]; decide) (by rw [c8]; rfl) (by decide) ?_
      exact k8 c1 c2 c3 c4 c5 c6 c7 c8
    by_cases c9 : ((mScr G x4.toNatClampNeg) &&& 63) = 7
    · refine mW_tabIn (off := 585) (tgt := 624) dL_law_39 (by rw [c9]; decide) (by rw [c9]; decide) (by rw [c9]; rfl) (by decide) ?_
      exact k9 c1 c2 c3 c4 c5 c6 c7 c8 c9
    by_cases c10 : ((mScr G x4.toNatClampNeg) &&& 63) = 8
    · refine mW_tabIn (off := 677) (tgt := 716) dL_law_39 (by rw [c10]; decide) (by rw [c10]; decide) (by rw [c10]; rfl) (by decide) ?_
      exact k10 c1 c2 c3 c4 c5 c6 c7 c8 c9 c10
    by_cases c11 : ((mScr G x4.toNatClampNeg) &&& 63) = 9
    · refine mW_tabIn (off := 733) (tgt := 772) dL_law_39 (by rw [c11]; decide) (by rw [c11]; decide) (by rw [c11]; rfl) (by decide) ?_
      exact k11 c1 c2 c3 c4 c5 c6 c7 c8 c9 c10 c11
    by_cases c12 : ((mScr G x4.toNatClampNeg) &&& 63) = 10
    · refine mW_tabIn (off := 777) (tgt := 816) dL_law_39 (by rw [c12]; decide) (by rw [c12]; decide) (by rw [c12]; rfl) (by decide) ?_
      exact k12 c1 c2 c3 c4 c5 c6 c7 c8 c9 c10 c11 c12
    by_cases c13 : ((mScr G x4.toNatClampNeg) &&& 63) = 11
    · refine mW_tabIn (off := 790) (tgt := 829) dL_law_39 (by rw [c13]; decide) (by rw [c13]; decide) (by rw [c13]; rfl) (by decide) ?_
      exact k13 c1 c2 c3 c4 c5 c6 c7 c8 c9 c10 c11 c12 c13
    by_cases c14 : ((mScr G x4.toNatClampNeg) &&& 63) = 12
    · refine mW_tabIn (off := 846) (tgt := 885) dL_law_39 (by rw [c14]; decide) (by rw [c14]; decide) (by rw [c14]; rfl) (by decide) ?_
      exact k14 c1 c2 c3 c4 c5 c6 c7 c8 c9 c10 c11 c12 c13 c14
    by_cases c15 : ((mScr G x4.toNatClampNeg) &&& 63) = 13
    · refine mW_tabIn (off := 902) (tgt := 941) dL_law_39 (by rw [c15]; decide) (by rw [c15]; decide) (by rw [c15]; rfl) (by decide) ?_
      exact k15 c1 c2 c3 c4 c5 c6 c7 c8 c9 c10 c11 c12 c13 c14 c15
    by_cases c16 : ((mScr G x4.toNatClampNeg) &&& 63) = 14
    · refine mW_tabIn (off := 958) (tgt := 997) dL_law_39 (by rw [c16]; decide) (by rw [c16]; decide) (by rw [c16]; rfl) (by decide) ?_
      exact k16 c1 c2 c3 c4 c5 c6 c7 c8 c9 c10 c11 c12 c13 c14 c15 c16
    by_cases c17 : ((mScr G x4.toNatClampNeg) &&& 63) = 15
    · refine mW_tabIn (off := 971) (tgt := 1010) dL_law_39 (by rw [c17]; decide) (by rw [c17]; decide) (by rw [c17]; rfl) (by decide) ?_
      exact k17 c1 c2 c3 c4 c5 c6 c7 c8 c9 c10 c11 c12 c13 c14 c15 c16 c17
    by_cases c18 : ((mScr G x4.toNatClampNeg) &&& 63) = 16
    · refine mW_tabIn (off := 1039) (tgt := 1078) dL_law_39 (by rw [c18]; decide) (by rw [c18]; decide) (by rw [c18]; rfl) (by decide) ?_
      exact k18 c1 c2 c3 c4 c5 c6 c7 c8 c9 c10 c11 c12 c13 c14 c15 c16 c17 c18
    by_cases c19 : ((mScr G x4.toNatClampNeg) &&& 63) = 17
    · refine mW_tabIn (off := 1095) (tgt := 1134) dL_law_39 (by rw [c19]; decide) (by rw [c19]; decide) (by rw [c19]; rfl) (by decide) ?_
      exact k19 c1 c2 c3 c4 c5 c6 c7 c8 c9 c10 c11 c12 c13 c14 c15 c16 c17 c18 c19
    by_cases c20 : ((mScr G x4.toNatClampNeg) &&& 63) = 18
    · refine mW_tabIn (off := 1138) (tgt := 1177) dL_law_39 (by rw [c20]; decide) (by rw [c20]; decide) (by rw [c20]; rfl) (by decide) ?_
      exact k20 c1 c2 c3 c4 c5 c6 c7 c8 c9 c10 c11 c12 c13 c14 c15 c16 c17 c18 c19 c20
    by_cases c21 : ((mScr G x4.toNatClampNeg) &&& 63) = 19
    · refine mW_tabIn (off := 1194) (tgt := 1233) dL_law_39 (by rw [c21]; decide) (by rw [c21]; decide) (by rw [c21]; rfl) (by decide) ?_
      exact k21 c1 c2 c3 c4 c5 c6 c7 c8 c9 c10 c11 c12 c13 c14 c15 c16 c17 c18 c19 c20 c21
    by_cases c22 : ((mScr G x4.toNatClampNeg) &&& 63) = 20
    · refine mW_tabIn (off := 1237) (tgt := 1276) dL_law_39 (by rw [c22]; decide) (by rw [c22]; decide) (by rw [c22]; rfl) (by decide) ?_
      exact k22 c1 c2 c3 c4 c5 c6 c7 c8 c9 c10 c11 c12 c13 c14 c15 c16 c17 c18 c19 c20 c21 c22
    by_cases c23 : ((mScr G x4.toNatClampNeg) &&& 63) = 21
    · refine mW_tabIn (off := 1281) (tgt := 1320) dL_law_39 (by rw [c23]; decide) (by rw [c23]; decide) (by rw [c23]; rfl) (by decide) ?_
      exact k23 c1 c2 c3 c4 c5 c6 c7 c8 c9 c10 c11 c12 c13 c14 c15 c16 c17 c18 c19 c20 c21 c22 c23
    by_cases c24 : ((mScr G x4.toNatClampNeg) &&& 63) = 22
    · refine mW_tabIn (off := 1325) (tgt := 1364) dL_law_39 (by rw [c24]; decide) (by rw [c24]; decide) (by rw [c24]; rfl) (by decide) ?_
      exact k24 c1 c2 c3 c4 c5 c6 c7 c8 c9 c10 c11 c12 c13 c14 c15 c16 c17 c18 c19 c20 c21 c22 c23 c24
    by_cases c25 : ((mScr G x4.toNatClampNeg) &&& 63) = 23
    · refine mW_tabIn (off := 1381) (tgt := 1420) dL_law_39 (by rw [c25]; decide) (by rw [c25]; decide) (by rw [c25]; rfl) (by decide) ?_
      exact k25 c1 c2 c3 c4 c5 c6 c7 c8 c9 c10 c11 c12 c13 c14 c15 c16 c17 c18 c19 c20 c21 c22 c23 c24 c25
    by_cases c26 : ((mScr G x4.toNatClampNeg) &&& 63) = 24
    · refine mW_tabIn (off := 1394) (tgt := 1433) dL_law_39 (by rw [c26]; decide) (by rw [c26]; decide) (by rw [c26]; rfl) (by decide) ?_
      exact k26 c1 c2 c3 c4 c5 c6 c7 c8 c9 c10 c11 c12 c13 c14 c15 c16 c17 c18 c19 c20 c21 c22 c23 c24 c25 c26
    by_cases c27 : ((mScr G x4.toNatClampNeg) &&& 63) = 25
    · refine mW_tabIn (off := 1407) (tgt := 1446) dL_law_39 (by rw [c27]; decide) (by rw [c27]; decide) (by rw [c27]; rfl) (by decide) ?_
      exact k27 c1 c2 c3 c4 c5 c6 c7 c8 c9 c10 c11 c12 c13 c14 c15 c16 c17 c18 c19 c20 c21 c22 c23 c24 c25 c26 c27
    by_cases c28 : ((mScr G x4.toNatClampNeg) &&& 63) = 26
    · refine mW_tabIn (off := 1491) (tgt := 1530) dL_law_39 (by rw [c28]; decide) (by rw [c28]; decide) (by rw [c28]; rfl) (by decide) ?_
      exact k28 c1 c2 c3 c4 c5 c6 c7 c8 c9 c10 c11 c12 c13 c14 c15 c16 c17 c18 c19 c20 c21 c22 c23 c24 c25 c26 c27 c28
    by_cases c29 : ((mScr G x4.toNatClampNeg) &&& 63) = 27
    · refine mW_tabIn (off := 1562) (tgt := 1601) dL_law_39 (by rw [c29]; decide) (by rw [c29]; decide) (by rw [c29]; rfl) (by decide) ?_
      exact k29 c1 c2 c3 c4 c5 c6 c7 c8 c9 c10 c11 c12 c13 c14 c15 c16 c17 c18 c19 c20 c21 c22 c23 c24 c25 c26 c27 c28 c29
    by_cases c30 : ((mScr G x4.toNatClampNeg) &&& 63) = 28
    · refine mW_tabIn (off := 1634) (tgt := 1673) dL_law_39 (by rw [c30]; decide) (by rw [c30]; decide) (by rw [c30]; rfl) (by decide) ?_
      exact k30 c1 c2 c3 c4 c5 c6 c7 c8 c9 c10 c11 c12 c13 c14 c15 c16 c17 c18 c19 c20 c21 c22 c23 c24 c25 c26 c27 c28 c29 c30
    by_cases c31 : ((mScr G x4.toNatClampNeg) &&& 63) = 29
    · refine mW_tabIn (off := 1734) (tgt := 1773) dL_law_39 (by rw [c31]; decide) (by rw [c31]; decide) (by rw [c31]; rfl) (by decide) ?_
      exact k31 c1 c2 c3 c4 c5 c6 c7 c8 c9 c10 c11 c12 c13 c14 c15 c16 c17 c18 c19 c20 c21 c22 c23 c24 c25 c26 c27 c28 c29 c30 c31
    by_cases c32 : ((mScr G x4.toNatClampNeg) &&& 63) = 30
    · refine mW_tabIn (off := 1790) (tgt := 1829) dL_law_39 (by rw [c32]; decide) (by rw [c32]; decide) (by rw [c32]; rfl) (by decide) ?_
      exact k32 c1 c2 c3 c4 c5 c6 c7 c8 c9 c10 c11 c12 c13 c14 c15 c16 c17 c18 c19 c20 c21 c22 c23 c24 c25 c26 c27 c28 c29 c30 c31 c32
    by_cases c33 : ((mScr G x4.toNatClampNeg) &&& 63) = 31
    · refine mW_tabIn (off := 1834) (tgt := 1873) dL_law_39 (by rw [c33]; decide) (by rw [c33]; decide) (by rw [c33]; rfl) (by decide) ?_
      exact k33 c1 c2 c3 c4 c5 c6 c7 c8 c9 c10 c11 c12 c13 c14 c15 c16 c17 c18 c19 c20 c21 c22 c23 c24 c25 c26 c27 c28 c29 c30 c31 c32 c33
    by_cases c34 : ((mScr G x4.toNatClampNeg) &&& 63) = 32
    · refine mW_tabIn (off := 1847) (tgt := 1886) dL_law_39 (by rw [c34]; decide) (by rw [c34]; decide) (by rw [c34]; rfl) (by decide) ?_
      exact k34 c1 c2 c3 c4 c5 c6 c7 c8 c9 c10 c11 c12 c13 c14 c15 c16 c17 c18 c19 c20 c21 c22 c23 c24 c25 c26 c27 c28 c29 c30 c31 c32 c33 c34
    refine mW_tabOut (tgt := 1930) dL_law_39 (m_out (lo := 0) (n := 33) (x := ((mScr G x4.toNatClampNeg) &&& 63)) (by decide) (by decide) (fun v q1 q2 => (fun z => z.elim (fun e1 e2 => c2 (m_ti (k := 0) (by decide) (e2.trans e1))) (fun z => z.elim (fun e1 e2 => c3 (m_ti (k := 1) (by decide) (e2.trans e1))) (fun z => z.elim (fun e1 e2 => c4 (m_ti (k := 2) (by decide) (e2.trans e1))) (fun z => z.elim (fun e1 e2 => c5 (m_ti (k := 3) (by decide) (e2.trans e1))) (fun z => z.elim (fun e1 e2 => c6 (m_ti (k := 4) (by decide) (e2.trans e1))) (fun z => z.elim (fun e1 e2 => c7 (m_ti (k := 5) (by decide) (e2.trans e1))) (fun z => z.elim (fun e1 e2 => c8 (m_ti (k := 6) (by decide) (e2.trans e1))) (fun z => z.elim (fun e1 e2 => c9 (m_ti (k := 7) (by decide) (e2.trans e1))) (fun z => z.elim (fun e1 e2 => c10 (m_ti (k := 8) (by decide) (e2.trans e1))) (fun z => z.elim (fun e1 e2 => c11 (m_ti (k := 9) (by decide) (e2.trans e1))) (fun z => z.elim (fun e1 e2 => c12 (m_ti (k := 10) (by decide) (e2.trans e1))) (fun z => z.elim (fun e1 e2 => c13 (m_ti (k := 11) (by decide) (e2.trans e1))) (fun z => z.elim (fun e1 e2 => c14 (m_ti (k := 12) (by decide) (e2.trans e1))) (fun z => z.elim (fun e1 e2 => c15 (m_ti (k := 13) (by decide) (e2.trans e1))) (fun z => z.elim (fun e1 e2 => c16 (m_ti (k := 14) (by decide) (e2.trans e1))) (fun z => z.elim (fun e1 e2 => c17 (m_ti (k := 15) (by decide) (e2.trans e1))) (fun z => z.elim (fun e1 e2 => c18 (m_ti (k := 16) (by decide) (e2.trans e1))) (fun z => z.elim (fun e1 e2 => c19 (m_ti (k := 17) (by decide) (e2.trans e1))) (fun z => z.elim (fun e1 e2 => c20 (m_ti (k := 18) (by decide) (e2.trans e1))) (fun z => z.elim (fun e1 e2 => c21 (m_ti (k := 19) (by decide) (e2.trans e1))) (fun z => z.elim (fun e1 e2 => c22 (m_ti (k := 20) (by decide) (e2.trans e1))) (fun z => z.elim (fun e1 e2 => c23 (m_ti (k := 21) (by decide) (e2.trans e1))) (fun z => z.elim (fun e1 e2 => c24 (m_ti (k := 22) (by decide) (e2.trans e1))) (fun z => z.elim (fun e1 e2 => c25 (m_ti (k := 23) (by decide) (e2.trans e1))) (fun z => z.elim (fun e1 e2 => c26 (m_ti (k := 24) (by decide) (e2.trans e1))) (fun z => z.elim (fun e1 e2 => c27 (m_ti (k := 25) (by decide) (e2.trans e1))) (fun z => z.elim (fun e1 e2 => c28 (m_ti (k := 26) (by decide) (e2.trans e1))) (fun z => z.elim (fun e1 e2 => c29 (m_ti (k := 27) (by decide) (e2.trans e1))) (fun z => z.elim (fun e1 e2 => c30 (m_ti (k := 28) (by decide) (e2.trans e1))) (fun z => z.elim (fun e1 e2 => c31 (m_ti (k := 29) (by decide) (e2.trans e1))) (fun z => z.elim (fun e1 e2 => c32 (m_ti (k := 30) (by decide) (e2.trans e1))) (fun z => z.elim (fun e1 e2 => c33 (m_ti (k := 31) (by decide) (e2.trans e1))) (fun e1 e2 => c34 (m_ti (k := 32) (by decide) (e2.trans e1))))))))))))))))))))))))))))))))))) (show v = 0 ∨ v = 1 ∨ v = 2 ∨ v = 3 ∨ v = 4 ∨ v = 5 ∨ v = 6 ∨ v = 7 ∨ v = 8 ∨ v = 9 ∨ v = 10 ∨ v = 11 ∨ v = 12 ∨ v = 13 ∨ v = 14 ∨ v = 15 ∨ v = 16 ∨ v = 17 ∨ v = 18 ∨ v = 19 ∨ v = 20 ∨ v = 21 ∨ v = 22 ∨ v = 23 ∨ v = 24 ∨ v = 25 ∨ v = 26 ∨ v = 27 ∨ v = 28 ∨ v = 29 ∨ v = 30 ∨ v = 31 ∨ v = 32 by omega))) (by decide) ?_
    exact k35 c1 c2 c3 c4 c5 c6 c7 c8 c9 c10 c11 c12 c13 c14 c15 c16 c17 c18 c19 c20 c21 c22 c23 c24 c25 c26 c27 c28 c29 c30 c31 c32 c33 c34
set_option maxHeartbeats 4000000 in
set_option maxRecDepth 100000 in
theorem gL_law_1930 {G : mG} {nm : String} {kc ks : Nat} {w : mH} {Φ : mF} {a1 a2 a3 : Nat} {x4 : Int32}  (k1 : mW G (mL_law nm) 11 kc ks 23 [(0, .ref (G.2.2.2 5)), (1, .ref a1), (2, .ref a2), (3, .ref a3), (4, .int (x4 + 5))] [] w Φ) : mW G (mL_law nm) 11 kc ks 1930 [(0, .ref (G.2.2.2 5)), (1, .ref a1), (2, .ref a2), (3, .ref a3), (4, .int x4)] [] w Φ := by
  refine mW_iinc (j := 4) (v := x4 + 5) (lv2 := [(4, .int (x4 + 5)), (0, .ref (G.2.2.2 5)), (1, .ref a1), (2, .ref a2), (3, .ref a3)]) dL_law_1930 rfl rfl (Nat.le_of_ble_eq_true rfl) rfl ?_
  refine mW_goto (tgt := 23) dL_law_1933 (by decide) ?_
  refine mW_loc [1, 2, 3, 4, 0] (lv2 := [(0, .ref (G.2.2.2 5)), (1, .ref a1), (2, .ref a2), (3, .ref a3), (4, .int (x4 + 5))]) rfl ?_
  exact k1
theorem u709 : (Cond.codeWith ⟨"LineFollowerBenchLaw", "set", "(LLineFollowerBench;II[J)I"⟩ method_3_code 5 (some .int) [(0, 10, 13, 13), (0, 10, 17, 15)] : Cond) ∈ mTs := mTs_in 709 (by decide +kernel) (by decide +kernel)
theorem u69 : (Cond.initialized "LineFollowerBenchLaw" : Cond) ∈ mTs := mTs_in 69 (by decide +kernel) (by decide +kernel)
theorem u707 : (Cond.methodLink "LineFollowerBenchLaw" 114 ⟨"LineFollowerBenchLaw", "set", "(LLineFollowerBench;II[J)I"⟩ : Cond) ∈ mTs := mTs_in 707 (by decide +kernel) (by decide +kernel)
theorem u708 : (Cond.static ⟨"LineFollowerBenchLaw", "set", "(LLineFollowerBench;II[J)I"⟩ : Cond) ∈ mTs := mTs_in 708 (by decide +kernel) (by decide +kernel)
theorem l_L_114 : mLinkSH "LineFollowerBenchLaw" 114 4 mL_set := ⟨⟨by decide, by decide, by decide +kernel⟩, u709, u69, by decide, u707, u708⟩
set_option maxHeartbeats 4000000 in
set_option maxRecDepth 100000 in
theorem gL_law_184 {G : mG} {nm : String} {kc ks : Nat} {w : mH} {Φ : mF} {a1 a2 a3 : Nat} {x4 : Int32} (s1 : vp_in (x4 + 1) (G.2.2.2 6)) (s2 : vp_in (x4 + 2) (G.2.2.2 6)) (k1 : mCH G mL_set 10 1 6 [.ref a1, .int (mScr G ((x4 + 1).toNatClampNeg)), .int (mScr G ((x4 + 2).toNatClampNeg)), .ref a3] w (mRi G (mL_law nm) 11 kc ks 201 [(0, .ref (G.2.2.2 5)), (1, .ref a1), (2, .ref a2), (3, .ref a3), (4, .int x4)] [] Φ)) : mW G (mL_law nm) 11 (kc + 1) (ks + 6) 184 [(0, .ref (G.2.2.2 5)), (1, .ref a1), (2, .ref a2), (3, .ref a3), (4, .int x4)] [] w Φ := by
  refine mW_aload_n (j := 1) dL_law_184 rfl rfl ?_
  refine mW_aload_n (j := 0) dL_law_185 rfl rfl ?_
  refine mW_iload (j := 4) dL_law_186 rfl ?_
  refine mW_iconst (v := 1) dL_law_188 (by decide) ?_
  refine mW_iadd dL_law_189 ?_
  refine mW_scr (i := x4 + 1) dL_law_190 s1 ?_
  refine mW_aload_n (j := 0) dL_law_191 rfl rfl ?_
  refine mW_iload (j := 4) dL_law_192 rfl ?_
  refine mW_iconst (v := 2) dL_law_194 (by decide) ?_
  refine mW_iadd dL_law_195 ?_
  refine mW_scr (i := x4 + 2) dL_law_196 s2 ?_
  refine mW_aload_n (j := 3) dL_law_197 rfl rfl ?_
  refine mW_callSH (As := [.ref a1, .int (mScr G ((x4 + 1).toNatClampNeg)), .int (mScr G ((x4 + 2).toNatClampNeg)), .ref a3]) (rest := []) (kc2 := kc) (ks2 := ks) dL_law_198 l_L_114 rfl (k1) (Nat.le_of_ble_eq_true rfl) (by decide) (Nat.add_comm _ _) (Nat.add_comm _ _) mRix mRik
theorem u1673 : (Cond.code ⟨"LineFollowerBenchModel", "set", "(II)I"⟩ prog_13_method_9_code 4 (some .int) : Cond) ∈ mTs := mTs_in 1673 (by decide +kernel) (by decide +kernel)
theorem co_X11_set : mCode mX11_set := ⟨u1673, u85, by decide⟩
theorem u1670 : (Cond.methodLink "LineFollowerBenchLaw" 119 ⟨"LineFollowerBenchModel", "set", "(II)I"⟩ : Cond) ∈ mTs := mTs_in 1670 (by decide +kernel) (by decide +kernel)
theorem u1671 : (Cond.instanceMethod ⟨"LineFollowerBenchModel", "set", "(II)I"⟩ : Cond) ∈ mTs := mTs_in 1671 (by decide +kernel) (by decide +kernel)
theorem u1672 : (Cond.selects "LineFollowerBenchModel" ⟨"LineFollowerBenchModel", "set", "(II)I"⟩ ⟨"LineFollowerBenchModel", "set", "(II)I"⟩ : Cond) ∈ mTs := mTs_in 1672 (by decide +kernel) (by decide +kernel)
theorem l_L_119 : mLinkV "LineFollowerBenchLaw" 119 2 mX11_set := ⟨⟨by decide, by decide, by decide +kernel⟩, co_X11_set, u1670, u1671, u1672⟩
set_option maxHeartbeats 4000000 in
set_option maxRecDepth 100000 in
theorem gL_law_201 {G : mG} {nm : String} {kc ks : Nat} {w : mH} {Φ : mF} {a1 a2 a3 : Nat} {x4 x_0 : Int32} (s1 : vp_in (x4 + 1) (G.2.2.2 6)) (s2 : vp_in (x4 + 2) (G.2.2.2 6)) (h1 : hk w a2 = (11, 0)) (k1 : mC G mX11_set 4 0 0 [.ref a2, .int (mScr G ((x4 + 1).toNatClampNeg)), .int (mScr G ((x4 + 2).toNatClampNeg))] w (mRi G (mL_law nm) 11 kc ks 219 [(5, .int x_0), (0, .ref (G.2.2.2 5)), (1, .ref a1), (2, .ref a2), (3, .ref a3), (4, .int x4)] [] Φ)) : mW G (mL_law nm) 11 kc ks 201 [(0, .ref (G.2.2.2 5)), (1, .ref a1), (2, .ref a2), (3, .ref a3), (4, .int x4)] [.int x_0] w Φ := by
  refine mW_istore (lv2 := [(5, .int x_0), (0, .ref (G.2.2.2 5)), (1, .ref a1), (2, .ref a2), (3, .ref a3), (4, .int x4)]) dL_law_201 (Nat.le_of_ble_eq_true rfl) rfl ?_
  refine mW_aload_n (j := 3) dL_law_203 rfl rfl ?_
  refine mW_aload_n (j := 1) dL_law_204 rfl rfl ?_
  refine mW_iload (j := 5) dL_law_205 rfl ?_
  refine mW_iconst (v := 1) dL_law_207 (by decide) ?_
  refine mW_iadd dL_law_208 ?_
  refine mW_scr (i := x4 + 1) dL_law_209 s1 ?_
  refine mW_aload_n (j := 1) dL_law_210 rfl rfl ?_
  refine mW_iload (j := 5) dL_law_211 rfl ?_
  refine mW_iconst (v := 2) dL_law_213 (by decide) ?_
  refine mW_iadd dL_law_214 ?_
  refine mW_scr (i := x4 + 2) dL_law_215 s2 ?_
  refine mW_callV (As := [.int (mScr G ((x4 + 1).toNatClampNeg)), .int (mScr G ((x4 + 2).toNatClampNeg))]) (rest := []) (kc2 := kc) (ks2 := ks) dL_law_216 l_L_119 rfl h1 rfl (by decide) (k1) (Nat.le_of_ble_eq_true rfl) (by decide) (Nat.zero_add _) (Nat.zero_add _) mRix mRik
theorem u1552 : (Cond.code ⟨"LineFollowerBenchModel", "thrown", "()I"⟩ prog_13_method_1_code 1 (some .int) : Cond) ∈ mTs := mTs_in 1552 (by decide +kernel) (by decide +kernel)
theorem co_X11_thrown : mCode mX11_thrown := ⟨u1552, u85, by decide⟩
theorem u1549 : (Cond.methodLink "LineFollowerBenchLaw" 120 ⟨"LineFollowerBenchModel", "thrown", "()I"⟩ : Cond) ∈ mTs := mTs_in 1549 (by decide +kernel) (by decide +kernel)
theorem u1550 : (Cond.instanceMethod ⟨"LineFollowerBenchModel", "thrown", "()I"⟩ : Cond) ∈ mTs := mTs_in 1550 (by decide +kernel) (by decide +kernel)
theorem u1551 : (Cond.selects "LineFollowerBenchModel" ⟨"LineFollowerBenchModel", "thrown", "()I"⟩ ⟨"LineFollowerBenchModel", "thrown", "()I"⟩ : Cond) ∈ mTs := mTs_in 1551 (by decide +kernel) (by decide +kernel)
theorem l_L_120 : mLinkV "LineFollowerBenchLaw" 120 0 mX11_thrown := ⟨⟨by decide, by decide, by decide +kernel⟩, co_X11_thrown, u1549, u1550, u1551⟩
set_option maxHeartbeats 4000000 in
set_option maxRecDepth 100000 in
theorem gL_law_219 {G : mG} {nm : String} {kc ks : Nat} {w : mH} {Φ : mF} {a1 a2 a3 : Nat} {x4 x5 x_0 : Int32} {n_a3 : Nat} (h1 : hk w a2 = (11, 0)) (h2 : hk w a3 = (17, n_a3)) (s1 : vp_in 0 n_a3) (k1 : ((hfi w a2 0) = x5) → (¬ (x5 = 0)) → mW G (mL_law nm) 11 kc ks 1930 [(0, .ref (G.2.2.2 5)), (1, .ref a1), (2, .ref a2), (3, .ref a3), (4, .int x4)] [] w Φ) (k2 : ((hfi w a2 0) = x5) → (x5 = 0) → ((lg_cmp (hal w a3 0) x_0.toInt64) = 0) → mW G (mL_law nm) 11 kc ks 1930 [(0, .ref (G.2.2.2 5)), (1, .ref a1), (2, .ref a2), (3, .ref a3), (4, .int x4)] [] w Φ) (k3 : ((hfi w a2 0) = x5) → (x5 = 0) → (¬ ((lg_cmp (hal w a3 0) x_0.toInt64) = 0)) → Φ (.inl (some (.int 0))) w) (k4 : (¬ ((hfi w a2 0) = x5)) → Φ (.inl (some (.int 0))) w) : mW G (mL_law nm) 11 kc ks 219 [(0, .ref (G.2.2.2 5)), (1, .ref a1), (2, .ref a2), (3, .ref a3), (4, .int x4), (5, .int x5)] [.int x_0] w Φ := by
  refine mW_istore (lv2 := [(6, .int x_0), (0, .ref (G.2.2.2 5)), (1, .ref a1), (2, .ref a2), (3, .ref a3), (4, .int x4), (5, .int x5)]) dL_law_219 (Nat.le_of_ble_eq_true rfl) rfl ?_
  refine mW_aload_n (j := 3) dL_law_221 rfl rfl ?_
  refine mW_callVe (As := []) (rest := []) (kc2 := kc) (ks2 := ks) dL_law_222 l_L_120 rfl h1 rfl (by decide) (qX11_thrown (w := w) (a0 := a2) h1) (Nat.le_of_ble_eq_true rfl) (by decide) (Nat.zero_add _) (Nat.zero_add _) ?_
  refine mW_iload (j := 6) dL_law_225 rfl ?_
  refine mW_icmp_eq (tgt := 232) dL_law_227 (by decide) (fun c1 => ?_) (fun c1 => ?_)
  · refine mW_iload (j := 6) dL_law_232 rfl ?_
    refine mW_if_ne (tgt := 249) dL_law_234 (by decide) (fun c2 => ?_) (fun c2 => ?_)
    · refine mW_goto (tgt := 1930) dL_law_249 (by decide) ?_
      refine mW_loc [1, 2, 3, 4, 5] (lv2 := [(0, .ref (G.2.2.2 5)), (1, .ref a1), (2, .ref a2), (3, .ref a3), (4, .int x4)]) rfl ?_
      exact k1 c1 c2
    · refine mW_aload_n (j := 4) dL_law_237 rfl rfl ?_
      refine mW_iconst (v := 0) dL_law_238 (by decide) ?_
      refine mW_laldJ dL_law_239 h2 s1 (j := 0) (by decide) ?_
      refine mW_iload (j := 0) dL_law_240 rfl ?_
      refine mW_i2l dL_law_242 ?_
      refine mW_lcmp dL_law_243 ?_
      refine mW_if_eq (tgt := 249) dL_law_244 (by decide) (fun c3 => ?_) (fun c3 => ?_)
      · refine mW_goto (tgt := 1930) dL_law_249 (by decide) ?_
        refine mW_loc [1, 2, 3, 4, 5] (lv2 := [(0, .ref (G.2.2.2 5)), (1, .ref a1), (2, .ref a2), (3, .ref a3), (4, .int x4)]) rfl ?_
        exact k2 c1 c2 c3
      · refine mW_iconst (v := 0) dL_law_247 (by decide) ?_
        exact mW_zret (ty := .boolean) dL_law_248 rfl (by first | rfl | decide) (k3 c1 c2 c3)
  · refine mW_iconst (v := 0) dL_law_230 (by decide) ?_
    exact mW_zret (ty := .boolean) dL_law_231 rfl (by first | rfl | decide) (k4 c1)
theorem u820 : (Cond.codeWith ⟨"LineFollowerBenchLaw", "setting", "(LLineFollowerBench;I[J)I"⟩ method_4_code 4 (some .int) [(0, 9, 12, 13)] : Cond) ∈ mTs := mTs_in 820 (by decide +kernel) (by decide +kernel)
theorem u818 : (Cond.methodLink "LineFollowerBenchLaw" 123 ⟨"LineFollowerBenchLaw", "setting", "(LLineFollowerBench;I[J)I"⟩ : Cond) ∈ mTs := mTs_in 818 (by decide +kernel) (by decide +kernel)
theorem u819 : (Cond.static ⟨"LineFollowerBenchLaw", "setting", "(LLineFollowerBench;I[J)I"⟩ : Cond) ∈ mTs := mTs_in 819 (by decide +kernel) (by decide +kernel)
theorem l_L_123 : mLinkSH "LineFollowerBenchLaw" 123 3 mL_setting := ⟨⟨by decide, by decide, by decide +kernel⟩, u820, u69, by decide, u818, u819⟩
set_option maxHeartbeats 4000000 in
set_option maxRecDepth 100000 in
theorem gL_law_252 {G : mG} {nm : String} {kc ks : Nat} {w : mH} {Φ : mF} {a1 a2 a3 : Nat} {x4 : Int32} (s1 : vp_in (x4 + 1) (G.2.2.2 6)) (k1 : mCH G mL_setting 10 1 6 [.ref a1, .int (mScr G ((x4 + 1).toNatClampNeg)), .ref a3] w (mRi G (mL_law nm) 11 kc ks 263 [(0, .ref (G.2.2.2 5)), (1, .ref a1), (2, .ref a2), (3, .ref a3), (4, .int x4)] [] Φ)) : mW G (mL_law nm) 11 (kc + 1) (ks + 6) 252 [(0, .ref (G.2.2.2 5)), (1, .ref a1), (2, .ref a2), (3, .ref a3), (4, .int x4)] [] w Φ := by
  refine mW_aload_n (j := 1) dL_law_252 rfl rfl ?_
  refine mW_aload_n (j := 0) dL_law_253 rfl rfl ?_
  refine mW_iload (j := 4) dL_law_254 rfl ?_
  refine mW_iconst (v := 1) dL_law_256 (by decide) ?_
  refine mW_iadd dL_law_257 ?_
  refine mW_scr (i := x4 + 1) dL_law_258 s1 ?_
  refine mW_aload_n (j := 3) dL_law_259 rfl rfl ?_
  refine mW_callSH (As := [.ref a1, .int (mScr G ((x4 + 1).toNatClampNeg)), .ref a3]) (rest := []) (kc2 := kc) (ks2 := ks) dL_law_260 l_L_123 rfl (k1) (Nat.le_of_ble_eq_true rfl) (by decide) (Nat.add_comm _ _) (Nat.add_comm _ _) mRix mRik
theorem u1689 : (Cond.code ⟨"LineFollowerBenchModel", "setting", "(I)I"⟩ prog_13_method_10_code 2 (some .int) : Cond) ∈ mTs := mTs_in 1689 (by decide +kernel) (by decide +kernel)
theorem co_X11_setting : mCode mX11_setting := ⟨u1689, u85, by decide⟩
theorem u1686 : (Cond.methodLink "LineFollowerBenchLaw" 126 ⟨"LineFollowerBenchModel", "setting", "(I)I"⟩ : Cond) ∈ mTs := mTs_in 1686 (by decide +kernel) (by decide +kernel)
theorem u1687 : (Cond.instanceMethod ⟨"LineFollowerBenchModel", "setting", "(I)I"⟩ : Cond) ∈ mTs := mTs_in 1687 (by decide +kernel) (by decide +kernel)
theorem u1688 : (Cond.selects "LineFollowerBenchModel" ⟨"LineFollowerBenchModel", "setting", "(I)I"⟩ ⟨"LineFollowerBenchModel", "setting", "(I)I"⟩ : Cond) ∈ mTs := mTs_in 1688 (by decide +kernel) (by decide +kernel)
theorem l_L_126 : mLinkV "LineFollowerBenchLaw" 126 1 mX11_setting := ⟨⟨by decide, by decide, by decide +kernel⟩, co_X11_setting, u1686, u1687, u1688⟩
set_option maxHeartbeats 4000000 in
set_option maxRecDepth 100000 in
theorem gL_law_263 {G : mG} {nm : String} {kc ks : Nat} {w : mH} {Φ : mF} {a1 a2 a3 : Nat} {x4 x_0 : Int32} (s1 : vp_in (x4 + 1) (G.2.2.2 6)) (h1 : hk w a2 = (11, 0)) (k1 : mC G mX11_setting 2 0 0 [.ref a2, .int (mScr G ((x4 + 1).toNatClampNeg))] w (mRi G (mL_law nm) 11 kc ks 275 [(5, .int x_0), (0, .ref (G.2.2.2 5)), (1, .ref a1), (2, .ref a2), (3, .ref a3), (4, .int x4)] [] Φ)) : mW G (mL_law nm) 11 kc ks 263 [(0, .ref (G.2.2.2 5)), (1, .ref a1), (2, .ref a2), (3, .ref a3), (4, .int x4)] [.int x_0] w Φ := by
  refine mW_istore (lv2 := [(5, .int x_0), (0, .ref (G.2.2.2 5)), (1, .ref a1), (2, .ref a2), (3, .ref a3), (4, .int x4)]) dL_law_263 (Nat.le_of_ble_eq_true rfl) rfl ?_
  refine mW_aload_n (j := 3) dL_law_265 rfl rfl ?_
  refine mW_aload_n (j := 1) dL_law_266 rfl rfl ?_
  refine mW_iload (j := 5) dL_law_267 rfl ?_
  refine mW_iconst (v := 1) dL_law_269 (by decide) ?_
  refine mW_iadd dL_law_270 ?_
  refine mW_scr (i := x4 + 1) dL_law_271 s1 ?_
  refine mW_callV (As := [.int (mScr G ((x4 + 1).toNatClampNeg))]) (rest := []) (kc2 := kc) (ks2 := ks) dL_law_272 l_L_126 rfl h1 rfl (by decide) (k1) (Nat.le_of_ble_eq_true rfl) (by decide) (Nat.zero_add _) (Nat.zero_add _) mRix mRik
set_option maxHeartbeats 4000000 in
set_option maxRecDepth 100000 in
theorem gL_law_275 {G : mG} {nm : String} {kc ks : Nat} {w : mH} {Φ : mF} {a1 a2 a3 : Nat} {x4 x5 x_0 : Int32} {n_a3 : Nat} (h1 : hk w a2 = (11, 0)) (h2 : hk w a3 = (17, n_a3)) (s1 : vp_in 0 n_a3) (k1 : ((hfi w a2 0) = x5) → (¬ (x5 = 0)) → mW G (mL_law nm) 11 kc ks 1930 [(0, .ref (G.2.2.2 5)), (1, .ref a1), (2, .ref a2), (3, .ref a3), (4, .int x4)] [] w Φ) (k2 : ((hfi w a2 0) = x5) → (x5 = 0) → ((lg_cmp (hal w a3 0) x_0.toInt64) = 0) → mW G (mL_law nm) 11 kc ks 1930 [(0, .ref (G.2.2.2 5)), (1, .ref a1), (2, .ref a2), (3, .ref a3), (4, .int x4)] [] w Φ) (k3 : ((hfi w a2 0) = x5) → (x5 = 0) → (¬ ((lg_cmp (hal w a3 0) x_0.toInt64) = 0)) → Φ (.inl (some (.int 0))) w) (k4 : (¬ ((hfi w a2 0) = x5)) → Φ (.inl (some (.int 0))) w) : mW G (mL_law nm) 11 kc ks 275 [(0, .ref (G.2.2.2 5)), (1, .ref a1), (2, .ref a2), (3, .ref a3), (4, .int x4), (5, .int x5)] [.int x_0] w Φ := by
  refine mW_istore (lv2 := [(6, .int x_0), (0, .ref (G.2.2.2 5)), (1, .ref a1), (2, .ref a2), (3, .ref a3), (4, .int x4), (5, .int x5)]) dL_law_275 (Nat.le_of_ble_eq_true rfl) rfl ?_
  refine mW_aload_n (j := 3) dL_law_277 rfl rfl ?_
  refine mW_callVe (As := []) (rest := []) (kc2 := kc) (ks2 := ks) dL_law_278 l_L_120 rfl h1 rfl (by decide) (qX11_thrown (w := w) (a0 := a2) h1) (Nat.le_of_ble_eq_true rfl) (by decide) (Nat.zero_add _) (Nat.zero_add _) ?_
  refine mW_iload (j := 6) dL_law_281 rfl ?_
  refine mW_icmp_eq (tgt := 288) dL_law_283 (by decide) (fun c1 => ?_) (fun c1 => ?_)
  · refine mW_iload (j := 6) dL_law_288 rfl ?_
    refine mW_if_ne (tgt := 305) dL_law_290 (by decide) (fun c2 => ?_) (fun c2 => ?_)
    · refine mW_goto (tgt := 1930) dL_law_305 (by decide) ?_
      refine mW_loc [1, 2, 3, 4, 5] (lv2 := [(0, .ref (G.2.2.2 5)), (1, .ref a1), (2, .ref a2), (3, .ref a3), (4, .int x4)]) rfl ?_
      exact k1 c1 c2
    · refine mW_aload_n (j := 4) dL_law_293 rfl rfl ?_
      refine mW_iconst (v := 0) dL_law_294 (by decide) ?_
      refine mW_laldJ dL_law_295 h2 s1 (j := 0) (by decide) ?_
      refine mW_iload (j := 0) dL_law_296 rfl ?_
      refine mW_i2l dL_law_298 ?_
      refine mW_lcmp dL_law_299 ?_
      refine mW_if_eq (tgt := 305) dL_law_300 (by decide) (fun c3 => ?_) (fun c3 => ?_)
      · refine mW_goto (tgt := 1930) dL_law_305 (by decide) ?_
        refine mW_loc [1, 2, 3, 4, 5] (lv2 := [(0, .ref (G.2.2.2 5)), (1, .ref a1), (2, .ref a2), (3, .ref a3), (4, .int x4)]) rfl ?_
        exact k2 c1 c2 c3
      · refine mW_iconst (v := 0) dL_law_303 (by decide) ?_
        exact mW_zret (ty := .boolean) dL_law_304 rfl (by first | rfl | decide) (k3 c1 c2 c3)
  · refine mW_iconst (v := 0) dL_law_286 (by decide) ?_
    exact mW_zret (ty := .boolean) dL_law_287 rfl (by first | rfl | decide) (k4 c1)
theorem u827 : (Cond.codeWith ⟨"LineFollowerBenchLaw", "setPoint", "(LLineFollowerBench;II[J)I"⟩ method_5_code 5 (some .int) [(0, 10, 13, 15), (0, 10, 17, 24)] : Cond) ∈ mTs := mTs_in 827 (by decide +kernel) (by decide +kernel)
theorem u825 : (Cond.methodLink "LineFollowerBenchLaw" 127 ⟨"LineFollowerBenchLaw", "setPoint", "(LLineFollowerBench;II[J)I"⟩ : Cond) ∈ mTs := mTs_in 825 (by decide +kernel) (by decide +kernel)
theorem u826 : (Cond.static ⟨"LineFollowerBenchLaw", "setPoint", "(LLineFollowerBench;II[J)I"⟩ : Cond) ∈ mTs := mTs_in 826 (by decide +kernel) (by decide +kernel)
theorem l_L_127 : mLinkSH "LineFollowerBenchLaw" 127 4 mL_setPoint := ⟨⟨by decide, by decide, by decide +kernel⟩, u827, u69, by decide, u825, u826⟩
set_option maxHeartbeats 4000000 in
set_option maxRecDepth 100000 in
theorem gL_law_308 {G : mG} {nm : String} {kc ks : Nat} {w : mH} {Φ : mF} {a1 a2 a3 : Nat} {x4 : Int32} (s1 : vp_in (x4 + 1) (G.2.2.2 6)) (s2 : vp_in (x4 + 2) (G.2.2.2 6)) (k1 : mCH G mL_setPoint 10 1 6 [.ref a1, .int (mScr G ((x4 + 1).toNatClampNeg)), .int (mScr G ((x4 + 2).toNatClampNeg)), .ref a3] w (mRi G (mL_law nm) 11 kc ks 325 [(0, .ref (G.2.2.2 5)), (1, .ref a1), (2, .ref a2), (3, .ref a3), (4, .int x4)] [] Φ)) : mW G (mL_law nm) 11 (kc + 1) (ks + 6) 308 [(0, .ref (G.2.2.2 5)), (1, .ref a1), (2, .ref a2), (3, .ref a3), (4, .int x4)] [] w Φ := by
  refine mW_aload_n (j := 1) dL_law_308 rfl rfl ?_
  refine mW_aload_n (j := 0) dL_law_309 rfl rfl ?_
  refine mW_iload (j := 4) dL_law_310 rfl ?_
  refine mW_iconst (v := 1) dL_law_312 (by decide) ?_
  refine mW_iadd dL_law_313 ?_
  refine mW_scr (i := x4 + 1) dL_law_314 s1 ?_
  refine mW_aload_n (j := 0) dL_law_315 rfl rfl ?_
  refine mW_iload (j := 4) dL_law_316 rfl ?_
  refine mW_iconst (v := 2) dL_law_318 (by decide) ?_
  refine mW_iadd dL_law_319 ?_
  refine mW_scr (i := x4 + 2) dL_law_320 s2 ?_
  refine mW_aload_n (j := 3) dL_law_321 rfl rfl ?_
  refine mW_callSH (As := [.ref a1, .int (mScr G ((x4 + 1).toNatClampNeg)), .int (mScr G ((x4 + 2).toNatClampNeg)), .ref a3]) (rest := []) (kc2 := kc) (ks2 := ks) dL_law_322 l_L_127 rfl (k1) (Nat.le_of_ble_eq_true rfl) (by decide) (Nat.add_comm _ _) (Nat.add_comm _ _) mRix mRik
theorem u1693 : (Cond.code ⟨"LineFollowerBenchModel", "setPoint", "(II)I"⟩ prog_13_method_15_code 4 (some .int) : Cond) ∈ mTs := mTs_in 1693 (by decide +kernel) (by decide +kernel)
theorem co_X11_setPoint : mCode mX11_setPoint := ⟨u1693, u85, by decide⟩
theorem u1690 : (Cond.methodLink "LineFollowerBenchLaw" 129 ⟨"LineFollowerBenchModel", "setPoint", "(II)I"⟩ : Cond) ∈ mTs := mTs_in 1690 (by decide +kernel) (by decide +kernel)
theorem u1691 : (Cond.instanceMethod ⟨"LineFollowerBenchModel", "setPoint", "(II)I"⟩ : Cond) ∈ mTs := mTs_in 1691 (by decide +kernel) (by decide +kernel)
theorem u1692 : (Cond.selects "LineFollowerBenchModel" ⟨"LineFollowerBenchModel", "setPoint", "(II)I"⟩ ⟨"LineFollowerBenchModel", "setPoint", "(II)I"⟩ : Cond) ∈ mTs := mTs_in 1692 (by decide +kernel) (by decide +kernel)
theorem l_L_129 : mLinkV "LineFollowerBenchLaw" 129 2 mX11_setPoint := ⟨⟨by decide, by decide, by decide +kernel⟩, co_X11_setPoint, u1690, u1691, u1692⟩
set_option maxHeartbeats 4000000 in
set_option maxRecDepth 100000 in
theorem gL_law_325 {G : mG} {nm : String} {kc ks : Nat} {w : mH} {Φ : mF} {a1 a2 a3 : Nat} {x4 x_0 : Int32} (s1 : vp_in (x4 + 1) (G.2.2.2 6)) (s2 : vp_in (x4 + 2) (G.2.2.2 6)) (h1 : hk w a2 = (11, 0)) (k1 : mC G mX11_setPoint 4 0 0 [.ref a2, .int (mScr G ((x4 + 1).toNatClampNeg)), .int (mScr G ((x4 + 2).toNatClampNeg))] w (mRi G (mL_law nm) 11 kc ks 343 [(5, .int x_0), (0, .ref (G.2.2.2 5)), (1, .ref a1), (2, .ref a2), (3, .ref a3), (4, .int x4)] [] Φ)) : mW G (mL_law nm) 11 kc ks 325 [(0, .ref (G.2.2.2 5)), (1, .ref a1), (2, .ref a2), (3, .ref a3), (4, .int x4)] [.int x_0] w Φ := by
  refine mW_istore (lv2 := [(5, .int x_0), (0, .ref (G.2.2.2 5)), (1, .ref a1), (2, .ref a2), (3, .ref a3), (4, .int x4)]) dL_law_325 (Nat.le_of_ble_eq_true rfl) rfl ?_
  refine mW_aload_n (j := 3) dL_law_327 rfl rfl ?_
  refine mW_aload_n (j := 1) dL_law_328 rfl rfl ?_
  refine mW_iload (j := 5) dL_law_329 rfl ?_
  refine mW_iconst (v := 1) dL_law_331 (by decide) ?_
  refine mW_iadd dL_law_332 ?_
  refine mW_scr (i := x4 + 1) dL_law_333 s1 ?_
  refine mW_aload_n (j := 1) dL_law_334 rfl rfl ?_
  refine mW_iload (j := 5) dL_law_335 rfl ?_
  refine mW_iconst (v := 2) dL_law_337 (by decide) ?_
  refine mW_iadd dL_law_338 ?_
  refine mW_scr (i := x4 + 2) dL_law_339 s2 ?_
  refine mW_callV (As := [.int (mScr G ((x4 + 1).toNatClampNeg)), .int (mScr G ((x4 + 2).toNatClampNeg))]) (rest := []) (kc2 := kc) (ks2 := ks) dL_law_340 l_L_129 rfl h1 rfl (by decide) (k1) (Nat.le_of_ble_eq_true rfl) (by decide) (Nat.zero_add _) (Nat.zero_add _) mRix mRik
set_option maxHeartbeats 4000000 in
set_option maxRecDepth 100000 in
theorem gL_law_343 {G : mG} {nm : String} {kc ks : Nat} {w : mH} {Φ : mF} {a1 a2 a3 : Nat} {x4 x5 x_0 : Int32} {n_a3 : Nat} (h1 : hk w a2 = (11, 0)) (h2 : hk w a3 = (17, n_a3)) (s1 : vp_in 0 n_a3) (k1 : ((hfi w a2 0) = x5) → (¬ (x5 = 0)) → mW G (mL_law nm) 11 kc ks 1930 [(0, .ref (G.2.2.2 5)), (1, .ref a1), (2, .ref a2), (3, .ref a3), (4, .int x4)] [] w Φ) (k2 : ((hfi w a2 0) = x5) → (x5 = 0) → ((lg_cmp (hal w a3 0) x_0.toInt64) = 0) → mW G (mL_law nm) 11 kc ks 1930 [(0, .ref (G.2.2.2 5)), (1, .ref a1), (2, .ref a2), (3, .ref a3), (4, .int x4)] [] w Φ) (k3 : ((hfi w a2 0) = x5) → (x5 = 0) → (¬ ((lg_cmp (hal w a3 0) x_0.toInt64) = 0)) → Φ (.inl (some (.int 0))) w) (k4 : (¬ ((hfi w a2 0) = x5)) → Φ (.inl (some (.int 0))) w) : mW G (mL_law nm) 11 kc ks 343 [(0, .ref (G.2.2.2 5)), (1, .ref a1), (2, .ref a2), (3, .ref a3), (4, .int x4), (5, .int x5)] [.int x_0] w Φ := by
  refine mW_istore (lv2 := [(6, .int x_0), (0, .ref (G.2.2.2 5)), (1, .ref a1), (2, .ref a2), (3, .ref a3), (4, .int x4), (5, .int x5)]) dL_law_343 (Nat.le_of_ble_eq_true rfl) rfl ?_
  refine mW_aload_n (j := 3) dL_law_345 rfl rfl ?_
  refine mW_callVe (As := []) (rest := []) (kc2 := kc) (ks2 := ks) dL_law_346 l_L_120 rfl h1 rfl (by decide) (qX11_thrown (w := w) (a0 := a2) h1) (Nat.le_of_ble_eq_true rfl) (by decide) (Nat.zero_add _) (Nat.zero_add _) ?_
  refine mW_iload (j := 6) dL_law_349 rfl ?_
  refine mW_icmp_eq (tgt := 356) dL_law_351 (by decide) (fun c1 => ?_) (fun c1 => ?_)
  · refine mW_iload (j := 6) dL_law_356 rfl ?_
    refine mW_if_ne (tgt := 373) dL_law_358 (by decide) (fun c2 => ?_) (fun c2 => ?_)
    · refine mW_goto (tgt := 1930) dL_law_373 (by decide) ?_
      refine mW_loc [1, 2, 3, 4, 5] (lv2 := [(0, .ref (G.2.2.2 5)), (1, .ref a1), (2, .ref a2), (3, .ref a3), (4, .int x4)]) rfl ?_
      exact k1 c1 c2
    · refine mW_aload_n (j := 4) dL_law_361 rfl rfl ?_
      refine mW_iconst (v := 0) dL_law_362 (by decide) ?_
      refine mW_laldJ dL_law_363 h2 s1 (j := 0) (by decide) ?_
      refine mW_iload (j := 0) dL_law_364 rfl ?_
      refine mW_i2l dL_law_366 ?_
      refine mW_lcmp dL_law_367 ?_
      refine mW_if_eq (tgt := 373) dL_law_368 (by decide) (fun c3 => ?_) (fun c3 => ?_)
      · refine mW_goto (tgt := 1930) dL_law_373 (by decide) ?_
        refine mW_loc [1, 2, 3, 4, 5] (lv2 := [(0, .ref (G.2.2.2 5)), (1, .ref a1), (2, .ref a2), (3, .ref a3), (4, .int x4)]) rfl ?_
        exact k2 c1 c2 c3
      · refine mW_iconst (v := 0) dL_law_371 (by decide) ?_
        exact mW_zret (ty := .boolean) dL_law_372 rfl (by first | rfl | decide) (k3 c1 c2 c3)
  · refine mW_iconst (v := 0) dL_law_354 (by decide) ?_
    exact mW_zret (ty := .boolean) dL_law_355 rfl (by first | rfl | decide) (k4 c1)
theorem u872 : (Cond.codeWith ⟨"LineFollowerBenchLaw", "removePoint", "(LLineFollowerBench;I[J)I"⟩ method_6_code 4 (some .int) [(0, 9, 12, 29)] : Cond) ∈ mTs := mTs_in 872 (by decide +kernel) (by decide +kernel)
theorem u870 : (Cond.methodLink "LineFollowerBenchLaw" 130 ⟨"LineFollowerBenchLaw", "removePoint", "(LLineFollowerBench;I[J)I"⟩ : Cond) ∈ mTs := mTs_in 870 (by decide +kernel) (by decide +kernel)
theorem u871 : (Cond.static ⟨"LineFollowerBenchLaw", "removePoint", "(LLineFollowerBench;I[J)I"⟩ : Cond) ∈ mTs := mTs_in 871 (by decide +kernel) (by decide +kernel)
theorem l_L_130 : mLinkSH "LineFollowerBenchLaw" 130 3 mL_removePoint := ⟨⟨by decide, by decide, by decide +kernel⟩, u872, u69, by decide, u870, u871⟩
set_option maxHeartbeats 4000000 in
set_option maxRecDepth 100000 in
theorem gL_law_376 {G : mG} {nm : String} {kc ks : Nat} {w : mH} {Φ : mF} {a1 a2 a3 : Nat} {x4 : Int32} (s1 : vp_in (x4 + 1) (G.2.2.2 6)) (k1 : mCH G mL_removePoint 10 1 6 [.ref a1, .int (mScr G ((x4 + 1).toNatClampNeg)), .ref a3] w (mRi G (mL_law nm) 11 kc ks 387 [(0, .ref (G.2.2.2 5)), (1, .ref a1), (2, .ref a2), (3, .ref a3), (4, .int x4)] [] Φ)) : mW G (mL_law nm) 11 (kc + 1) (ks + 6) 376 [(0, .ref (G.2.2.2 5)), (1, .ref a1), (2, .ref a2), (3, .ref a3), (4, .int x4)] [] w Φ := by
  refine mW_aload_n (j := 1) dL_law_376 rfl rfl ?_
  refine mW_aload_n (j := 0) dL_law_377 rfl rfl ?_
  refine mW_iload (j := 4) dL_law_378 rfl ?_
  refine mW_iconst (v := 1) dL_law_380 (by decide) ?_
  refine mW_iadd dL_law_381 ?_
  refine mW_scr (i := x4 + 1) dL_law_382 s1 ?_
  refine mW_aload_n (j := 3) dL_law_383 rfl rfl ?_
  refine mW_callSH (As := [.ref a1, .int (mScr G ((x4 + 1).toNatClampNeg)), .ref a3]) (rest := []) (kc2 := kc) (ks2 := ks) dL_law_384 l_L_130 rfl (k1) (Nat.le_of_ble_eq_true rfl) (by decide) (Nat.add_comm _ _) (Nat.add_comm _ _) mRix mRik
theorem u1717 : (Cond.code ⟨"LineFollowerBenchModel", "removePoint", "(I)I"⟩ prog_13_method_16_code 4 (some .int) : Cond) ∈ mTs := mTs_in 1717 (by decide +kernel) (by decide +kernel)
theorem co_X11_removePoint : mCode mX11_removePoint := ⟨u1717, u85, by decide⟩
theorem u1714 : (Cond.methodLink "LineFollowerBenchLaw" 132 ⟨"LineFollowerBenchModel", "removePoint", "(I)I"⟩ : Cond) ∈ mTs := mTs_in 1714 (by decide +kernel) (by decide +kernel)
theorem u1715 : (Cond.instanceMethod ⟨"LineFollowerBenchModel", "removePoint", "(I)I"⟩ : Cond) ∈ mTs := mTs_in 1715 (by decide +kernel) (by decide +kernel)
theorem u1716 : (Cond.selects "LineFollowerBenchModel" ⟨"LineFollowerBenchModel", "removePoint", "(I)I"⟩ ⟨"LineFollowerBenchModel", "removePoint", "(I)I"⟩ : Cond) ∈ mTs := mTs_in 1716 (by decide +kernel) (by decide +kernel)
theorem l_L_132 : mLinkV "LineFollowerBenchLaw" 132 1 mX11_removePoint := ⟨⟨by decide, by decide, by decide +kernel⟩, co_X11_removePoint, u1714, u1715, u1716⟩
set_option maxHeartbeats 4000000 in
set_option maxRecDepth 100000 in
theorem gL_law_387 {G : mG} {nm : String} {kc ks : Nat} {w : mH} {Φ : mF} {a1 a2 a3 : Nat} {x4 x_0 : Int32} (s1 : vp_in (x4 + 1) (G.2.2.2 6)) (h1 : hk w a2 = (11, 0)) (k1 : mC G mX11_removePoint 4 0 0 [.ref a2, .int (mScr G ((x4 + 1).toNatClampNeg))] w (mRi G (mL_law nm) 11 kc ks 399 [(5, .int x_0), (0, .ref (G.2.2.2 5)), (1, .ref a1), (2, .ref a2), (3, .ref a3), (4, .int x4)] [] Φ)) : mW G (mL_law nm) 11 kc ks 387 [(0, .ref (G.2.2.2 5)), (1, .ref a1), (2, .ref a2), (3, .ref a3), (4, .int x4)] [.int x_0] w Φ := by
  refine mW_istore (lv2 := [(5, .int x_0), (0, .ref (G.2.2.2 5)), (1, .ref a1), (2, .ref a2), (3, .ref a3), (4, .int x4)]) dL_law_387 (Nat.le_of_ble_eq_true rfl) rfl ?_
  refine mW_aload_n (j := 3) dL_law_389 rfl rfl ?_
  refine mW_aload_n (j := 1) dL_law_390 rfl rfl ?_
  refine mW_iload (j := 5) dL_law_391 rfl ?_
  refine mW_iconst (v := 1) dL_law_393 (by decide) ?_
  refine mW_iadd dL_law_394 ?_
  refine mW_scr (i := x4 + 1) dL_law_395 s1 ?_
  refine mW_callV (As := [.int (mScr G ((x4 + 1).toNatClampNeg))]) (rest := []) (kc2 := kc) (ks2 := ks) dL_law_396 l_L_132 rfl h1 rfl (by decide) (k1) (Nat.le_of_ble_eq_true rfl) (by decide) (Nat.zero_add _) (Nat.zero_add _) mRix mRik
set_option maxHeartbeats 4000000 in
set_option maxRecDepth 100000 in
theorem gL_law_399 {G : mG} {nm : String} {kc ks : Nat} {w : mH} {Φ : mF} {a1 a2 a3 : Nat} {x4 x5 x_0 : Int32} {n_a3 : Nat} (h1 : hk w a2 = (11, 0)) (h2 : hk w a3 = (17, n_a3)) (s1 : vp_in 0 n_a3) (k1 : ((hfi w a2 0) = x5) → (¬ (x5 = 0)) → mW G (mL_law nm) 11 kc ks 1930 [(0, .ref (G.2.2.2 5)), (1, .ref a1), (2, .ref a2), (3, .ref a3), (4, .int x4)] [] w Φ) (k2 : ((hfi w a2 0) = x5) → (x5 = 0) → ((lg_cmp (hal w a3 0) x_0.toInt64) = 0) → mW G (mL_law nm) 11 kc ks 1930 [(0, .ref (G.2.2.2 5)), (1, .ref a1), (2, .ref a2), (3, .ref a3), (4, .int x4)] [] w Φ) (k3 : ((hfi w a2 0) = x5) → (x5 = 0) → (¬ ((lg_cmp (hal w a3 0) x_0.toInt64) = 0)) → Φ (.inl (some (.int 0))) w) (k4 : (¬ ((hfi w a2 0) = x5)) → Φ (.inl (some (.int 0))) w) : mW G (mL_law nm) 11 kc ks 399 [(0, .ref (G.2.2.2 5)), (1, .ref a1), (2, .ref a2), (3, .ref a3), (4, .int x4), (5, .int x5)] [.int x_0] w Φ := by
  refine mW_istore (lv2 := [(6, .int x_0), (0, .ref (G.2.2.2 5)), (1, .ref a1), (2, .ref a2), (3, .ref a3), (4, .int x4), (5, .int x5)]) dL_law_399 (Nat.le_of_ble_eq_true rfl) rfl ?_
  refine mW_aload_n (j := 3) dL_law_401 rfl rfl ?_
  refine mW_callVe (As := []) (rest := []) (kc2 := kc) (ks2 := ks) dL_law_402 l_L_120 rfl h1 rfl (by decide) (qX11_thrown (w := w) (a0 := a2) h1) (Nat.le_of_ble_eq_true rfl) (by decide) (Nat.zero_add _) (Nat.zero_add _) ?_
  refine mW_iload (j := 6) dL_law_405 rfl ?_
  refine mW_icmp_eq (tgt := 412) dL_law_407 (by decide) (fun c1 => ?_) (fun c1 => ?_)
  · refine mW_iload (j := 6) dL_law_412 rfl ?_
    refine mW_if_ne (tgt := 429) dL_law_414 (by decide) (fun c2 => ?_) (fun c2 => ?_)
    · refine mW_goto (tgt := 1930) dL_law_429 (by decide) ?_
      refine mW_loc [1, 2, 3, 4, 5] (lv2 := [(0, .ref (G.2.2.2 5)), (1, .ref a1), (2, .ref a2), (3, .ref a3), (4, .int x4)]) rfl ?_
      exact k1 c1 c2
    · refine mW_aload_n (j := 4) dL_law_417 rfl rfl ?_
      refine mW_iconst (v := 0) dL_law_418 (by decide) ?_
      refine mW_laldJ dL_law_419 h2 s1 (j := 0) (by decide) ?_
      refine mW_iload (j := 0) dL_law_420 rfl ?_
      refine mW_i2l dL_law_422 ?_
      refine mW_lcmp dL_law_423 ?_
      refine mW_if_eq (tgt := 429) dL_law_424 (by decide) (fun c3 => ?_) (fun c3 => ?_)
      · refine mW_goto (tgt := 1930) dL_law_429 (by decide) ?_
        refine mW_loc [1, 2, 3, 4, 5] (lv2 := [(0, .ref (G.2.2.2 5)), (1, .ref a1), (2, .ref a2), (3, .ref a3), (4, .int x4)]) rfl ?_
        exact k2 c1 c2 c3
      · refine mW_iconst (v := 0) dL_law_427 (by decide) ?_
        exact mW_zret (ty := .boolean) dL_law_428 rfl (by first | rfl | decide) (k3 c1 c2 c3)
  · refine mW_iconst (v := 0) dL_law_410 (by decide) ?_
    exact mW_zret (ty := .boolean) dL_law_411 rfl (by first | rfl | decide) (k4 c1)
theorem u902 : (Cond.codeWith ⟨"LineFollowerBenchLaw", "point", "(LLineFollowerBench;II[J)I"⟩ method_7_code 5 (some .int) [(0, 10, 13, 29), (0, 10, 17, 15)] : Cond) ∈ mTs := mTs_in 902 (by decide +kernel) (by decide +kernel)
theorem u900 : (Cond.methodLink "LineFollowerBenchLaw" 133 ⟨"LineFollowerBenchLaw", "point", "(LLineFollowerBench;II[J)I"⟩ : Cond) ∈ mTs := mTs_in 900 (by decide +kernel) (by decide +kernel)
theorem u901 : (Cond.static ⟨"LineFollowerBenchLaw", "point", "(LLineFollowerBench;II[J)I"⟩ : Cond) ∈ mTs := mTs_in 901 (by decide +kernel) (by decide +kernel)
theorem l_L_133 : mLinkSH "LineFollowerBenchLaw" 133 4 mL_point := ⟨⟨by decide, by decide, by decide +kernel⟩, u902, u69, by decide, u900, u901⟩
set_option maxHeartbeats 4000000 in
set_option maxRecDepth 100000 in
theorem gL_law_432 {G : mG} {nm : String} {kc ks : Nat} {w : mH} {Φ : mF} {a1 a2 a3 : Nat} {x4 : Int32} (s1 : vp_in (x4 + 1) (G.2.2.2 6)) (s2 : vp_in (x4 + 2) (G.2.2.2 6)) (k1 : mCH G mL_point 10 1 6 [.ref a1, .int (mScr G ((x4 + 1).toNatClampNeg)), .int (mScr G ((x4 + 2).toNatClampNeg)), .ref a3] w (mRi G (mL_law nm) 11 kc ks 449 [(0, .ref (G.2.2.2 5)), (1, .ref a1), (2, .ref a2), (3, .ref a3), (4, .int x4)] [] Φ)) : mW G (mL_law nm) 11 (kc + 1) (ks + 6) 432 [(0, .ref (G.2.2.2 5)), (1, .ref a1), (2, .ref a2), (3, .ref a3), (4, .int x4)] [] w Φ := by
  refine mW_aload_n (j := 1) dL_law_432 rfl rfl ?_
  refine mW_aload_n (j := 0) dL_law_433 rfl rfl ?_
  refine mW_iload (j := 4) dL_law_434 rfl ?_
  refine mW_iconst (v := 1) dL_law_436 (by decide) ?_
  refine mW_iadd dL_law_437 ?_
  refine mW_scr (i := x4 + 1) dL_law_438 s1 ?_
  refine mW_aload_n (j := 0) dL_law_439 rfl rfl ?_
  refine mW_iload (j := 4) dL_law_440 rfl ?_
  refine mW_iconst (v := 2) dL_law_442 (by decide) ?_
  refine mW_iadd dL_law_443 ?_
  refine mW_scr (i := x4 + 2) dL_law_444 s2 ?_
  refine mW_aload_n (j := 3) dL_law_445 rfl rfl ?_
  refine mW_callSH (As := [.ref a1, .int (mScr G ((x4 + 1).toNatClampNeg)), .int (mScr G ((x4 + 2).toNatClampNeg)), .ref a3]) (rest := []) (kc2 := kc) (ks2 := ks) dL_law_446 l_L_133 rfl (k1) (Nat.le_of_ble_eq_true rfl) (by decide) (Nat.add_comm _ _) (Nat.add_comm _ _) mRix mRik
theorem u1721 : (Cond.code ⟨"LineFollowerBenchModel", "point", "(II)I"⟩ prog_13_method_17_code 3 (some .int) : Cond) ∈ mTs := mTs_in 1721 (by decide +kernel) (by decide +kernel)
theorem co_X11_point : mCode mX11_point := ⟨u1721, u85, by decide⟩
theorem u1718 : (Cond.methodLink "LineFollowerBenchLaw" 135 ⟨"LineFollowerBenchModel", "point", "(II)I"⟩ : Cond) ∈ mTs := mTs_in 1718 (by decide +kernel) (by decide +kernel)
theorem u1719 : (Cond.instanceMethod ⟨"LineFollowerBenchModel", "point", "(II)I"⟩ : Cond) ∈ mTs := mTs_in 1719 (by decide +kernel) (by decide +kernel)
theorem u1720 : (Cond.selects "LineFollowerBenchModel" ⟨"LineFollowerBenchModel", "point", "(II)I"⟩ ⟨"LineFollowerBenchModel", "point", "(II)I"⟩ : Cond) ∈ mTs := mTs_in 1720 (by decide +kernel) (by decide +kernel)
theorem l_L_135 : mLinkV "LineFollowerBenchLaw" 135 2 mX11_point := ⟨⟨by decide, by decide, by decide +kernel⟩, co_X11_point, u1718, u1719, u1720⟩
set_option maxHeartbeats 4000000 in
set_option maxRecDepth 100000 in
theorem gL_law_449 {G : mG} {nm : String} {kc ks : Nat} {w : mH} {Φ : mF} {a1 a2 a3 : Nat} {x4 x_0 : Int32} (s1 : vp_in (x4 + 1) (G.2.2.2 6)) (s2 : vp_in (x4 + 2) (G.2.2.2 6)) (h1 : hk w a2 = (11, 0)) (k1 : mC G mX11_point 3 0 0 [.ref a2, .int (mScr G ((x4 + 1).toNatClampNeg)), .int (mScr G ((x4 + 2).toNatClampNeg))] w (mRi G (mL_law nm) 11 kc ks 467 [(5, .int x_0), (0, .ref (G.2.2.2 5)), (1, .ref a1), (2, .ref a2), (3, .ref a3), (4, .int x4)] [] Φ)) : mW G (mL_law nm) 11 kc ks 449 [(0, .ref (G.2.2.2 5)), (1, .ref a1), (2, .ref a2), (3, .ref a3), (4, .int x4)] [.int x_0] w Φ := by
  refine mW_istore (lv2 := [(5, .int x_0), (0, .ref (G.2.2.2 5)), (1, .ref a1), (2, .ref a2), (3, .ref a3), (4, .int x4)]) dL_law_449 (Nat.le_of_ble_eq_true rfl) rfl ?_
  refine mW_aload_n (j := 3) dL_law_451 rfl rfl ?_
  refine mW_aload_n (j := 1) dL_law_452 rfl rfl ?_
  refine mW_iload (j := 5) dL_law_453 rfl ?_
  refine mW_iconst (v := 1) dL_law_455 (by decide) ?_
  refine mW_iadd dL_law_456 ?_
  refine mW_scr (i := x4 + 1) dL_law_457 s1 ?_
  refine mW_aload_n (j := 1) dL_law_458 rfl rfl ?_
  refine mW_iload (j := 5) dL_law_459 rfl ?_
  refine mW_iconst (v := 2) dL_law_461 (by decide) ?_
  refine mW_iadd dL_law_462 ?_
  refine mW_scr (i := x4 + 2) dL_law_463 s2 ?_
  refine mW_callV (As := [.int (mScr G ((x4 + 1).toNatClampNeg)), .int (mScr G ((x4 + 2).toNatClampNeg))]) (rest := []) (kc2 := kc) (ks2 := ks) dL_law_464 l_L_135 rfl h1 rfl (by decide) (k1) (Nat.le_of_ble_eq_true rfl) (by decide) (Nat.zero_add _) (Nat.zero_add _) mRix mRik
set_option maxHeartbeats 4000000 in
set_option maxRecDepth 100000 in
theorem gL_law_467 {G : mG} {nm : String} {kc ks : Nat} {w : mH} {Φ : mF} {a1 a2 a3 : Nat} {x4 x5 x_0 : Int32} {n_a3 : Nat} (h1 : hk w a2 = (11, 0)) (h2 : hk w a3 = (17, n_a3)) (s1 : vp_in 0 n_a3) (k1 : ((hfi w a2 0) = x5) → (¬ (x5 = 0)) → mW G (mL_law nm) 11 kc ks 1930 [(0, .ref (G.2.2.2 5)), (1, .ref a1), (2, .ref a2), (3, .ref a3), (4, .int x4)] [] w Φ) (k2 : ((hfi w a2 0) = x5) → (x5 = 0) → ((lg_cmp (hal w a3 0) x_0.toInt64) = 0) → mW G (mL_law nm) 11 kc ks 1930 [(0, .ref (G.2.2.2 5)), (1, .ref a1), (2, .ref a2), (3, .ref a3), (4, .int x4)] [] w Φ) (k3 : ((hfi w a2 0) = x5) → (x5 = 0) → (¬ ((lg_cmp (hal w a3 0) x_0.toInt64) = 0)) → Φ (.inl (some (.int 0))) w) (k4 : (¬ ((hfi w a2 0) = x5)) → Φ (.inl (some (.int 0))) w) : mW G (mL_law nm) 11 kc ks 467 [(0, .ref (G.2.2.2 5)), (1, .ref a1), (2, .ref a2), (3, .ref a3), (4, .int x4), (5, .int x5)] [.int x_0] w Φ := by
  refine mW_istore (lv2 := [(6, .int x_0), (0, .ref (G.2.2.2 5)), (1, .ref a1), (2, .ref a2), (3, .ref a3), (4, .int x4), (5, .int x5)]) dL_law_467 (Nat.le_of_ble_eq_true rfl) rfl ?_
  refine mW_aload_n (j := 3) dL_law_469 rfl rfl ?_
  refine mW_callVe (As := []) (rest := []) (kc2 := kc) (ks2 := ks) dL_law_470 l_L_120 rfl h1 rfl (by decide) (qX11_thrown (w := w) (a0 := a2) h1) (Nat.le_of_ble_eq_true rfl) (by decide) (Nat.zero_add _) (Nat.zero_add _) ?_
  refine mW_iload (j := 6) dL_law_473 rfl ?_
  refine mW_icmp_eq (tgt := 480) dL_law_475 (by decide) (fun c1 => ?_) (fun c1 => ?_)
  · refine mW_iload (j := 6) dL_law_480 rfl ?_
    refine mW_if_ne (tgt := 497) dL_law_482 (by decide) (fun c2 => ?_) (fun c2 => ?_)
    · refine mW_goto (tgt := 1930) dL_law_497 (by decide) ?_
      refine mW_loc [1, 2, 3, 4, 5] (lv2 := [(0, .ref (G.2.2.2 5)), (1, .ref a1), (2, .ref a2), (3, .ref a3), (4, .int x4)]) rfl ?_
      exact k1 c1 c2
    · refine mW_aload_n (j := 4) dL_law_485 rfl rfl ?_
      refine mW_iconst (v := 0) dL_law_486 (by decide) ?_
      refine mW_laldJ dL_law_487 h2 s1 (j := 0) (by decide) ?_
      refine mW_iload (j := 0) dL_law_488 rfl ?_
      refine mW_i2l dL_law_490 ?_
      refine mW_lcmp dL_law_491 ?_
      refine mW_if_eq (tgt := 497) dL_law_492 (by decide) (fun c3 => ?_) (fun c3 => ?_)
      · refine mW_goto (tgt := 1930) dL_law_497 (by decide) ?_
        refine mW_loc [1, 2, 3, 4, 5] (lv2 := [(0, .ref (G.2.2.2 5)), (1, .ref a1), (2, .ref a2), (3, .ref a3), (4, .int x4)]) rfl ?_
        exact k2 c1 c2 c3
      · refine mW_iconst (v := 0) dL_law_495 (by decide) ?_
        exact mW_zret (ty := .boolean) dL_law_496 rfl (by first | rfl | decide) (k3 c1 c2 c3)
  · refine mW_iconst (v := 0) dL_law_478 (by decide) ?_
    exact mW_zret (ty := .boolean) dL_law_479 rfl (by first | rfl | decide) (k4 c1)
theorem u911 : (Cond.codeWith ⟨"LineFollowerBenchLaw", "table", "(LLineFollowerBench;I[J)I"⟩ method_8_code 4 (some .int) [(0, 9, 12, 15)] : Cond) ∈ mTs := mTs_in 911 (by decide +kernel) (by decide +kernel)
theorem u909 : (Cond.methodLink "LineFollowerBenchLaw" 136 ⟨"LineFollowerBenchLaw", "table", "(LLineFollowerBench;I[J)I"⟩ : Cond) ∈ mTs := mTs_in 909 (by decide +kernel) (by decide +kernel)
theorem u910 : (Cond.static ⟨"LineFollowerBenchLaw", "table", "(LLineFollowerBench;I[J)I"⟩ : Cond) ∈ mTs := mTs_in 910 (by decide +kernel) (by decide +kernel)
theorem l_L_136 : mLinkSH "LineFollowerBenchLaw" 136 3 mL_table := ⟨⟨by decide, by decide, by decide +kernel⟩, u911, u69, by decide, u909, u910⟩
set_option maxHeartbeats 4000000 in
set_option maxRecDepth 100000 in
theorem gL_law_500 {G : mG} {nm : String} {kc ks : Nat} {w : mH} {Φ : mF} {a1 a2 a3 : Nat} {x4 : Int32} (s1 : vp_in (x4 + 1) (G.2.2.2 6)) (k1 : mCH G mL_table 10 1 6 [.ref a1, .int (mScr G ((x4 + 1).toNatClampNeg)), .ref a3] w (mRi G (mL_law nm) 11 kc ks 511 [(0, .ref (G.2.2.2 5)), (1, .ref a1), (2, .ref a2), (3, .ref a3), (4, .int x4)] [] Φ)) : mW G (mL_law nm) 11 (kc + 1) (ks + 6) 500 [(0, .ref (G.2.2.2 5)), (1, .ref a1), (2, .ref a2), (3, .ref a3), (4, .int x4)] [] w Φ := by
  refine mW_aload_n (j := 1) dL_law_500 rfl rfl ?_
  refine mW_aload_n (j := 0) dL_law_501 rfl rfl ?_
  refine mW_iload (j := 4) dL_law_502 rfl ?_
  refine mW_iconst (v := 1) dL_law_504 (by decide) ?_
  refine mW_iadd dL_law_505 ?_
  refine mW_scr (i := x4 + 1) dL_law_506 s1 ?_
  refine mW_aload_n (j := 3) dL_law_507 rfl rfl ?_
  refine mW_callSH (As := [.ref a1, .int (mScr G ((x4 + 1).toNatClampNeg)), .ref a3]) (rest := []) (kc2 := kc) (ks2 := ks) dL_law_508 l_L_136 rfl (k1) (Nat.le_of_ble_eq_true rfl) (by decide) (Nat.add_comm _ _) (Nat.add_comm _ _) mRix mRik
theorem u1725 : (Cond.code ⟨"LineFollowerBenchModel", "table", "(I)I"⟩ prog_13_method_19_code 2 (some .int) : Cond) ∈ mTs := mTs_in 1725 (by decide +kernel) (by decide +kernel)
theorem co_X11_table : mCode mX11_table := ⟨u1725, u85, by decide⟩
theorem u1722 : (Cond.methodLink "LineFollowerBenchLaw" 138 ⟨"LineFollowerBenchModel", "table", "(I)I"⟩ : Cond) ∈ mTs := mTs_in 1722 (by decide +kernel) (by decide +kernel)
theorem u1723 : (Cond.instanceMethod ⟨"LineFollowerBenchModel", "table", "(I)I"⟩ : Cond) ∈ mTs := mTs_in 1723 (by decide +kernel) (by decide +kernel)
theorem u1724 : (Cond.selects "LineFollowerBenchModel" ⟨"LineFollowerBenchModel", "table", "(I)I"⟩ ⟨"LineFollowerBenchModel", "table", "(I)I"⟩ : Cond) ∈ mTs := mTs_in 1724 (by decide +kernel) (by decide +kernel)
theorem l_L_138 : mLinkV "LineFollowerBenchLaw" 138 1 mX11_table := ⟨⟨by decide, by decide, by decide +kernel⟩, co_X11_table, u1722, u1723, u1724⟩
set_option maxHeartbeats 4000000 in
set_option maxRecDepth 100000 in
theorem gL_law_511 {G : mG} {nm : String} {kc ks : Nat} {w : mH} {Φ : mF} {a1 a2 a3 : Nat} {x4 x_0 : Int32} (s1 : vp_in (x4 + 1) (G.2.2.2 6)) (h1 : hk w a2 = (11, 0)) (k1 : mC G mX11_table 3 0 0 [.ref a2, .int (mScr G ((x4 + 1).toNatClampNeg))] w (mRi G (mL_law nm) 11 kc ks 523 [(5, .int x_0), (0, .ref (G.2.2.2 5)), (1, .ref a1), (2, .ref a2), (3, .ref a3), (4, .int x4)] [] Φ)) : mW G (mL_law nm) 11 kc ks 511 [(0, .ref (G.2.2.2 5)), (1, .ref a1), (2, .ref a2), (3, .ref a3), (4, .int x4)] [.int x_0] w Φ := by
  refine mW_istore (lv2 := [(5, .int x_0), (0, .ref (G.2.2.2 5)), (1, .ref a1), (2, .ref a2), (3, .ref a3), (4, .int x4)]) dL_law_511 (Nat.le_of_ble_eq_true rfl) rfl ?_
  refine mW_aload_n (j := 3) dL_law_513 rfl rfl ?_
  refine mW_aload_n (j := 1) dL_law_514 rfl rfl ?_
  refine mW_iload (j := 5) dL_law_515 rfl ?_
  refine mW_iconst (v := 1) dL_law_517 (by decide) ?_
  refine mW_iadd dL_law_518 ?_
  refine mW_scr (i := x4 + 1) dL_law_519 s1 ?_
  refine mW_callV (As := [.int (mScr G ((x4 + 1).toNatClampNeg))]) (rest := []) (kc2 := kc) (ks2 := ks) dL_law_520 l_L_138 rfl h1 rfl (by decide) (k1) (Nat.le_of_ble_eq_true rfl) (by decide) (Nat.zero_add _) (Nat.zero_add _) mRix mRik
set_option maxHeartbeats 4000000 in
set_option maxRecDepth 100000 in
theorem gL_law_523 {G : mG} {nm : String} {kc ks : Nat} {w : mH} {Φ : mF} {a1 a2 a3 : Nat} {x4 x5 x_0 : Int32} {n_a3 : Nat} (h1 : hk w a2 = (11, 0)) (h2 : hk w a3 = (17, n_a3)) (s1 : vp_in 0 n_a3) (k1 : ((hfi w a2 0) = x5) → (¬ (x5 = 0)) → mW G (mL_law nm) 11 kc ks 1930 [(0, .ref (G.2.2.2 5)), (1, .ref a1), (2, .ref a2), (3, .ref a3), (4, .int x4)] [] w Φ) (k2 : ((hfi w a2 0) = x5) → (x5 = 0) → ((lg_cmp (hal w a3 0) x_0.toInt64) = 0) → mW G (mL_law nm) 11 kc ks 1930 [(0, .ref (G.2.2.2 5)), (1, .ref a1), (2, .ref a2), (3, .ref a3), (4, .int x4)] [] w Φ) (k3 : ((hfi w a2 0) = x5) → (x5 = 0) → (¬ ((lg_cmp (hal w a3 0) x_0.toInt64) = 0)) → Φ (.inl (some (.int 0))) w) (k4 : (¬ ((hfi w a2 0) = x5)) → Φ (.inl (some (.int 0))) w) : mW G (mL_law nm) 11 kc ks 523 [(0, .ref (G.2.2.2 5)), (1, .ref a1), (2, .ref a2), (3, .ref a3), (4, .int x4), (5, .int x5)] [.int x_0] w Φ := by
  refine mW_istore (lv2 := [(6, .int x_0), (0, .ref (G.2.2.2 5)), (1, .ref a1), (2, .ref a2), (3, .ref a3), (4, .int x4), (5, .int x5)]) dL_law_523 (Nat.le_of_ble_eq_true rfl) rfl ?_
  refine mW_aload_n (j := 3) dL_law_525 rfl rfl ?_
  refine mW_callVe (As := []) (rest := []) (kc2 := kc) (ks2 := ks) dL_law_526 l_L_120 rfl h1 rfl (by decide) (qX11_thrown (w := w) (a0 := a2) h1) (Nat.le_of_ble_eq_true rfl) (by decide) (Nat.zero_add _) (Nat.zero_add _) ?_
  refine mW_iload (j := 6) dL_law_529 rfl ?_
  refine mW_icmp_eq (tgt := 536) dL_law_531 (by decide) (fun c1 => ?_) (fun c1 => ?_)
  · refine mW_iload (j := 6) dL_law_536 rfl ?_
    refine mW_if_ne (tgt := 553) dL_law_538 (by decide) (fun c2 => ?_) (fun c2 => ?_)
    · refine mW_goto (tgt := 1930) dL_law_553 (by decide) ?_
      refine mW_loc [1, 2, 3, 4, 5] (lv2 := [(0, .ref (G.2.2.2 5)), (1, .ref a1), (2, .ref a2), (3, .ref a3), (4, .int x4)]) rfl ?_
      exact k1 c1 c2
    · refine mW_aload_n (j := 4) dL_law_541 rfl rfl ?_
      refine mW_iconst (v := 0) dL_law_542 (by decide) ?_
      refine mW_laldJ dL_law_543 h2 s1 (j := 0) (by decide) ?_
      refine mW_iload (j := 0) dL_law_544 rfl ?_
      refine mW_i2l dL_law_546 ?_
      refine mW_lcmp dL_law_547 ?_
      refine mW_if_eq (tgt := 553) dL_law_548 (by decide) (fun c3 => ?_) (fun c3 => ?_)
      · refine mW_goto (tgt := 1930) dL_law_553 (by decide) ?_
        refine mW_loc [1, 2, 3, 4, 5] (lv2 := [(0, .ref (G.2.2.2 5)), (1, .ref a1), (2, .ref a2), (3, .ref a3), (4, .int x4)]) rfl ?_
        exact k2 c1 c2 c3
      · refine mW_iconst (v := 0) dL_law_551 (by decide) ?_
        exact mW_zret (ty := .boolean) dL_law_552 rfl (by first | rfl | decide) (k3 c1 c2 c3)
  · refine mW_iconst (v := 0) dL_law_534 (by decide) ?_
    exact mW_zret (ty := .boolean) dL_law_535 rfl (by first | rfl | decide) (k4 c1)
theorem u920 : (Cond.codeWith ⟨"LineFollowerBenchLaw", "setWeight", "(LLineFollowerBench;II[J)I"⟩ method_9_code 5 (some .int) [(0, 10, 13, 13), (0, 10, 17, 15)] : Cond) ∈ mTs := mTs_in 920 (by decide +kernel) (by decide +kernel)
theorem u918 : (Cond.methodLink "LineFollowerBenchLaw" 139 ⟨"LineFollowerBenchLaw", "setWeight", "(LLineFollowerBench;II[J)I"⟩ : Cond) ∈ mTs := mTs_in 918 (by decide +kernel) (by decide +kernel)
theorem u919 : (Cond.static ⟨"LineFollowerBenchLaw", "setWeight", "(LLineFollowerBench;II[J)I"⟩ : Cond) ∈ mTs := mTs_in 919 (by decide +kernel) (by decide +kernel)
theorem l_L_139 : mLinkSH "LineFollowerBenchLaw" 139 4 mL_setWeight := ⟨⟨by decide, by decide, by decide +kernel⟩, u920, u69, by decide, u918, u919⟩
set_option maxHeartbeats 4000000 in
set_option maxRecDepth 100000 in
theorem gL_law_556 {G : mG} {nm : String} {kc ks : Nat} {w : mH} {Φ : mF} {a1 a2 a3 : Nat} {x4 : Int32} (s1 : vp_in (x4 + 1) (G.2.2.2 6)) (s2 : vp_in (x4 + 2) (G.2.2.2 6)) (k1 : mCH G mL_setWeight 10 1 6 [.ref a1, .int (mScr G ((x4 + 1).toNatClampNeg)), .int (mScr G ((x4 + 2).toNatClampNeg)), .ref a3] w (mRi G (mL_law nm) 11 kc ks 573 [(0, .ref (G.2.2.2 5)), (1, .ref a1), (2, .ref a2), (3, .ref a3), (4, .int x4)] [] Φ)) : mW G (mL_law nm) 11 (kc + 1) (ks + 6) 556 [(0, .ref (G.2.2.2 5)), (1, .ref a1), (2, .ref a2), (3, .ref a3), (4, .int x4)] [] w Φ := by
  refine mW_aload_n (j := 1) dL_law_556 rfl rfl ?_
  refine mW_aload_n (j := 0) dL_law_557 rfl rfl ?_
  refine mW_iload (j := 4) dL_law_558 rfl ?_
  refine mW_iconst (v := 1) dL_law_560 (by decide) ?_
  refine mW_iadd dL_law_561 ?_
  refine mW_scr (i := x4 + 1) dL_law_562 s1 ?_
  refine mW_aload_n (j := 0) dL_law_563 rfl rfl ?_
  refine mW_iload (j := 4) dL_law_564 rfl ?_
  refine mW_iconst (v := 2) dL_law_566 (by decide) ?_
  refine mW_iadd dL_law_567 ?_
  refine mW_scr (i := x4 + 2) dL_law_568 s2 ?_
  refine mW_aload_n (j := 3) dL_law_569 rfl rfl ?_
  refine mW_callSH (As := [.ref a1, .int (mScr G ((x4 + 1).toNatClampNeg)), .int (mScr G ((x4 + 2).toNatClampNeg)), .ref a3]) (rest := []) (kc2 := kc) (ks2 := ks) dL_law_570 l_L_139 rfl (k1) (Nat.le_of_ble_eq_true rfl) (by decide) (Nat.add_comm _ _) (Nat.add_comm _ _) mRix mRik
theorem u1733 : (Cond.code ⟨"LineFollowerBenchModel", "setWeight", "(II)I"⟩ prog_13_method_20_code 4 (some .int) : Cond) ∈ mTs := mTs_in 1733 (by decide +kernel) (by decide +kernel)
theorem co_X11_setWeight : mCode mX11_setWeight := ⟨u1733, u85, by decide⟩
theorem u1730 : (Cond.methodLink "LineFollowerBenchLaw" 141 ⟨"LineFollowerBenchModel", "setWeight", "(II)I"⟩ : Cond) ∈ mTs := mTs_in 1730 (by decide +kernel) (by decide +kernel)
theorem u1731 : (Cond.instanceMethod ⟨"LineFollowerBenchModel", "setWeight", "(II)I"⟩ : Cond) ∈ mTs := mTs_in 1731 (by decide +kernel) (by decide +kernel)
theorem u1732 : (Cond.selects "LineFollowerBenchModel" ⟨"LineFollowerBenchModel", "setWeight", "(II)I"⟩ ⟨"LineFollowerBenchModel", "setWeight", "(II)I"⟩ : Cond) ∈ mTs := mTs_in 1732 (by decide +kernel) (by decide +kernel)
theorem l_L_141 : mLinkV "LineFollowerBenchLaw" 141 2 mX11_setWeight := ⟨⟨by decide, by decide, by decide +kernel⟩, co_X11_setWeight, u1730, u1731, u1732⟩
set_option maxHeartbeats 4000000 in
set_option maxRecDepth 100000 in
theorem gL_law_573 {G : mG} {nm : String} {kc ks : Nat} {w : mH} {Φ : mF} {a1 a2 a3 : Nat} {x4 x_0 : Int32} (s1 : vp_in (x4 + 1) (G.2.2.2 6)) (s2 : vp_in (x4 + 2) (G.2.2.2 6)) (h1 : hk w a2 = (11, 0)) (k1 : mC G mX11_setWeight 4 0 0 [.ref a2, .int (mScr G ((x4 + 1).toNatClampNeg)), .int (mScr G ((x4 + 2).toNatClampNeg))] w (mRi G (mL_law nm) 11 kc ks 591 [(5, .int x_0), (0, .ref (G.2.2.2 5)), (1, .ref a1), (2, .ref a2), (3, .ref a3), (4, .int x4)] [] Φ)) : mW G (mL_law nm) 11 kc ks 573 [(0, .ref (G.2.2.2 5)), (1, .ref a1), (2, .ref a2), (3, .ref a3), (4, .int x4)] [.int x_0] w Φ := by
  refine mW_istore (lv2 := [(5, .int x_0), (0, .ref (G.2.2.2 5)), (1, .ref a1), (2, .ref a2), (3, .ref a3), (4, .int x4)]) dL_law_573 (Nat.le_of_ble_eq_true rfl) rfl ?_
  refine mW_aload_n (j := 3) dL_law_575 rfl rfl ?_
  refine mW_aload_n (j := 1) dL_law_576 rfl rfl ?_
  refine mW_iload (j := 5) dL_law_577 rfl ?_
  refine mW_iconst (v := 1) dL_law_579 (by decide) ?_
  refine mW_iadd dL_law_580 ?_
  refine mW_scr (i := x4 + 1) dL_law_581 s1 ?_
  refine mW_aload_n (j := 1) dL_law_582 rfl rfl ?_
  refine mW_iload (j := 5) dL_law_583 rfl ?_
  refine mW_iconst (v := 2) dL_law_585 (by decide) ?_
  refine mW_iadd dL_law_586 ?_
  refine mW_scr (i := x4 + 2) dL_law_587 s2 ?_
  refine mW_callV (As := [.int (mScr G ((x4 + 1).toNatClampNeg)), .int (mScr G ((x4 + 2).toNatClampNeg))]) (rest := []) (kc2 := kc) (ks2 := ks) dL_law_588 l_L_141 rfl h1 rfl (by decide) (k1) (Nat.le_of_ble_eq_true rfl) (by decide) (Nat.zero_add _) (Nat.zero_add _) mRix mRik
set_option maxHeartbeats 4000000 in
set_option maxRecDepth 100000 in
theorem gL_law_591 {G : mG} {nm : String} {kc ks : Nat} {w : mH} {Φ : mF} {a1 a2 a3 : Nat} {x4 x5 x_0 : Int32} {n_a3 : Nat} (h1 : hk w a2 = (11, 0)) (h2 : hk w a3 = (17, n_a3)) (s1 : vp_in 0 n_a3) (k1 : ((hfi w a2 0) = x5) → (¬ (x5 = 0)) → mW G (mL_law nm) 11 kc ks 1930 [(0, .ref (G.2.2.2 5)), (1, .ref a1), (2, .ref a2), (3, .ref a3), (4, .int x4)] [] w Φ) (k2 : ((hfi w a2 0) = x5) → (x5 = 0) → ((lg_cmp (hal w a3 0) x_0.toInt64) = 0) → mW G (mL_law nm) 11 kc ks 1930 [(0, .ref (G.2.2.2 5)), (1, .ref a1), (2, .ref a2), (3, .ref a3), (4, .int x4)] [] w Φ) (k3 : ((hfi w a2 0) = x5) → (x5 = 0) → (¬ ((lg_cmp (hal w a3 0) x_0.toInt64) = 0)) → Φ (.inl (some (.int 0))) w) (k4 : (¬ ((hfi w a2 0) = x5)) → Φ (.inl (some (.int 0))) w) : mW G (mL_law nm) 11 kc ks 591 [(0, .ref (G.2.2.2 5)), (1, .ref a1), (2, .ref a2), (3, .ref a3), (4, .int x4), (5, .int x5)] [.int x_0] w Φ := by
  refine mW_istore (lv2 := [(6, .int x_0), (0, .ref (G.2.2.2 5)), (1, .ref a1), (2, .ref a2), (3, .ref a3), (4, .int x4), (5, .int x5)]) dL_law_591 (Nat.le_of_ble_eq_true rfl) rfl ?_
  refine mW_aload_n (j := 3) dL_law_593 rfl rfl ?_
  refine mW_callVe (As := []) (rest := []) (kc2 := kc) (ks2 := ks) dL_law_594 l_L_120 rfl h1 rfl (by decide) (qX11_thrown (w := w) (a0 := a2) h1) (Nat.le_of_ble_eq_true rfl) (by decide) (Nat.zero_add _) (Nat.zero_add _) ?_
  refine mW_iload (j := 6) dL_law_597 rfl ?_
  refine mW_icmp_eq (tgt := 604) dL_law_599 (by decide) (fun c1 => ?_) (fun c1 => ?_)
  · refine mW_iload (j := 6) dL_law_604 rfl ?_
    refine mW_if_ne (tgt := 621) dL_law_606 (by decide) (fun c2 => ?_) (fun c2 => ?_)
    · refine mW_goto (tgt := 1930) dL_law_621 (by decide) ?_
      refine mW_loc [1, 2, 3, 4, 5] (lv2 := [(0, .ref (G.2.2.2 5)), (1, .ref a1), (2, .ref a2), (3, .ref a3), (4, .int x4)]) rfl ?_
      exact k1 c1 c2
    · refine mW_aload_n (j := 4) dL_law_609 rfl rfl ?_
      refine mW_iconst (v := 0) dL_law_610 (by decide) ?_
      refine mW_laldJ dL_law_611 h2 s1 (j := 0) (by decide) ?_
      refine mW_iload (j := 0) dL_law_612 rfl ?_
      refine mW_i2l dL_law_614 ?_
      refine mW_lcmp dL_law_615 ?_
      refine mW_if_eq (tgt := 621) dL_law_616 (by decide) (fun c3 => ?_) (fun c3 => ?_)
      · refine mW_goto (tgt := 1930) dL_law_621 (by decide) ?_
        refine mW_loc [1, 2, 3, 4, 5] (lv2 := [(0, .ref (G.2.2.2 5)), (1, .ref a1), (2, .ref a2), (3, .ref a3), (4, .int x4)]) rfl ?_
        exact k2 c1 c2 c3
      · refine mW_iconst (v := 0) dL_law_619 (by decide) ?_
        exact mW_zret (ty := .boolean) dL_law_620 rfl (by first | rfl | decide) (k3 c1 c2 c3)
  · refine mW_iconst (v := 0) dL_law_602 (by decide) ?_
    exact mW_zret (ty := .boolean) dL_law_603 rfl (by first | rfl | decide) (k4 c1)
theorem u929 : (Cond.codeWith ⟨"LineFollowerBenchLaw", "setGrid", "(LLineFollowerBench;IIII[J)I"⟩ method_10_code 7 (some .int) [(0, 14, 17, 13), (0, 14, 21, 15)] : Cond) ∈ mTs := mTs_in 929 (by decide +kernel) (by decide +kernel)
theorem u927 : (Cond.methodLink "LineFollowerBenchLaw" 142 ⟨"LineFollowerBenchLaw", "setGrid", "(LLineFollowerBench;IIII[J)I"⟩ : Cond) ∈ mTs := mTs_in 927 (by decide +kernel) (by decide +kernel)
theorem u928 : (Cond.static ⟨"LineFollowerBenchLaw", "setGrid", "(LLineFollowerBench;IIII[J)I"⟩ : Cond) ∈ mTs := mTs_in 928 (by decide +kernel) (by decide +kernel)
theorem l_L_142 : mLinkSH "LineFollowerBenchLaw" 142 6 mL_setGrid := ⟨⟨by decide, by decide, by decide +kernel⟩, u929, u69, by decide, u927, u928⟩
set_option maxHeartbeats 4000000 in
set_option maxRecDepth 100000 in
theorem gL_law_624 {G : mG} {nm : String} {kc ks : Nat} {w : mH} {Φ : mF} {a1 a2 a3 : Nat} {x4 : Int32} (s1 : vp_in (x4 + 1) (G.2.2.2 6)) (s2 : vp_in (x4 + 2) (G.2.2.2 6)) (s3 : vp_in (x4 + 3) (G.2.2.2 6)) (s4 : vp_in (x4 + 4) (G.2.2.2 6)) (k1 : mCH G mL_setGrid 10 1 6 [.ref a1, .int (mScr G ((x4 + 1).toNatClampNeg)), .int (mScr G ((x4 + 2).toNatClampNeg)), .int (mScr G ((x4 + 3).toNatClampNeg)), .int (mScr G ((x4 + 4).toNatClampNeg)), .ref a3] w (mRi G (mL_law nm) 11 kc ks 653 [(0, .ref (G.2.2.2 5)), (1, .ref a1), (2, .ref a2), (3, .ref a3), (4, .int x4)] [] Φ)) : mW G (mL_law nm) 11 (kc + 1) (ks + 6) 624 [(0, .ref (G.2.2.2 5)), (1, .ref a1), (2, .ref a2), (3, .ref a3), (4, .int x4)] [] w Φ := by
  refine mW_aload_n (j := 1) dL_law_624 rfl rfl ?_
  refine mW_aload_n (j := 0) dL_law_625 rfl rfl ?_
  refine mW_iload (j := 4) dL_law_626 rfl ?_
  refine mW_iconst (v := 1) dL_law_628 (by decide) ?_
  refine mW_iadd dL_law_629 ?_
  refine mW_scr (i := x4 + 1) dL_law_630 s1 ?_
  refine mW_aload_n (j := 0) dL_law_631 rfl rfl ?_
  refine mW_iload (j := 4) dL_law_632 rfl ?_
  refine mW_iconst (v := 2) dL_law_634 (by decide) ?_
  refine mW_iadd dL_law_635 ?_
  refine mW_scr (i := x4 + 2) dL_law_636 s2 ?_
  refine mW_aload_n (j := 0) dL_law_637 rfl rfl ?_
  refine mW_iload (j := 4) dL_law_638 rfl ?_
  refine mW_iconst (v := 3) dL_law_640 (by decide) ?_
  refine mW_iadd dL_law_641 ?_
  refine mW_scr (i := x4 + 3) dL_law_642 s3 ?_
  refine mW_aload_n (j := 0) dL_law_643 rfl rfl ?_
  refine mW_iload (j := 4) dL_law_644 rfl ?_
  refine mW_iconst (v := 4) dL_law_646 (by decide) ?_
  refine mW_iadd dL_law_647 ?_
  refine mW_scr (i := x4 + 4) dL_law_648 s4 ?_
  refine mW_aload_n (j := 3) dL_law_649 rfl rfl ?_
  refine mW_callSH (As := [.ref a1, .int (mScr G ((x4 + 1).toNatClampNeg)), .int (mScr G ((x4 + 2).toNatClampNeg)), .int (mScr G ((x4 + 3).toNatClampNeg)), .int (mScr G ((x4 + 4).toNatClampNeg)), .ref a3]) (rest := []) (kc2 := kc) (ks2 := ks) dL_law_650 l_L_142 rfl (k1) (Nat.le_of_ble_eq_true rfl) (by decide) (Nat.add_comm _ _) (Nat.add_comm _ _) mRix mRik
theorem u1739 : (Cond.code ⟨"LineFollowerBenchModel", "setGrid", "(IIII)I"⟩ prog_13_method_25_code 5 (some .int) : Cond) ∈ mTs := mTs_in 1739 (by decide +kernel) (by decide +kernel)
theorem co_X11_setGrid : mCode mX11_setGrid := ⟨u1739, u85, by decide⟩
theorem u1736 : (Cond.methodLink "LineFollowerBenchLaw" 145 ⟨"LineFollowerBenchModel", "setGrid", "(IIII)I"⟩ : Cond) ∈ mTs := mTs_in 1736 (by decide +kernel) (by decide +kernel)
theorem u1737 : (Cond.instanceMethod ⟨"LineFollowerBenchModel", "setGrid", "(IIII)I"⟩ : Cond) ∈ mTs := mTs_in 1737 (by decide +kernel) (by decide +kernel)
theorem u1738 : (Cond.selects "LineFollowerBenchModel" ⟨"LineFollowerBenchModel", "setGrid", "(IIII)I"⟩ ⟨"LineFollowerBenchModel", "setGrid", "(IIII)I"⟩ : Cond) ∈ mTs := mTs_in 1738 (by decide +kernel) (by decide +kernel)
theorem l_L_145 : mLinkV "LineFollowerBenchLaw" 145 4 mX11_setGrid := ⟨⟨by decide, by decide, by decide +kernel⟩, co_X11_setGrid, u1736, u1737, u1738⟩
set_option maxHeartbeats 4000000 in
set_option maxRecDepth 100000 in
theorem gL_law_653 {G : mG} {nm : String} {kc ks : Nat} {w : mH} {Φ : mF} {a1 a2 a3 : Nat} {x4 x_0 : Int32} (s1 : vp_in (x4 + 1) (G.2.2.2 6)) (s2 : vp_in (x4 + 2) (G.2.2.2 6)) (s3 : vp_in (x4 + 3) (G.2.2.2 6)) (s4 : vp_in (x4 + 4) (G.2.2.2 6)) (h1 : hk w a2 = (11, 0)) (k1 : mC G mX11_setGrid 4 0 0 [.ref a2, .int (mScr G ((x4 + 1).toNatClampNeg)), .int (mScr G ((x4 + 2).toNatClampNeg)), .int (mScr G ((x4 + 3).toNatClampNeg)), .int (mScr G ((x4 + 4).toNatClampNeg))] w (mRi G (mL_law nm) 11 kc ks 683 [(5, .int x_0), (0, .ref (G.2.2.2 5)), (1, .ref a1), (2, .ref a2), (3, .ref a3), (4, .int x4)] [] Φ)) : mW G (mL_law nm) 11 kc ks 653 [(0, .ref (G.2.2.2 5)), (1, .ref a1), (2, .ref a2), (3, .ref a3), (4, .int x4)] [.int x_0] w Φ := by
  refine mW_istore (lv2 := [(5, .int x_0), (0, .ref (G.2.2.2 5)), (1, .ref a1), (2, .ref a2), (3, .ref a3), (4, .int x4)]) dL_law_653 (Nat.le_of_ble_eq_true rfl) rfl ?_
  refine mW_aload_n (j := 3) dL_law_655 rfl rfl ?_
  refine mW_aload_n (j := 1) dL_law_656 rfl rfl ?_
  refine mW_iload (j := 5) dL_law_657 rfl ?_
  refine mW_iconst (v := 1) dL_law_659 (by decide) ?_
  refine mW_iadd dL_law_660 ?_
  refine mW_scr (i := x4 + 1) dL_law_661 s1 ?_
  refine mW_aload_n (j := 1) dL_law_662 rfl rfl ?_
  refine mW_iload (j := 5) dL_law_663 rfl ?_
  refine mW_iconst (v := 2) dL_law_665 (by decide) ?_
  refine mW_iadd dL_law_666 ?_
  refine mW_scr (i := x4 + 2) dL_law_667 s2 ?_
  refine mW_aload_n (j := 1) dL_law_668 rfl rfl ?_
  refine mW_iload (j := 5) dL_law_669 rfl ?_
  refine mW_iconst (v := 3) dL_law_671 (by decide) ?_
  refine mW_iadd dL_law_672 ?_
  refine mW_scr (i := x4 + 3) dL_law_673 s3 ?_
  refine mW_aload_n (j := 1) dL_law_674 rfl rfl ?_
  refine mW_iload (j := 5) dL_law_675 rfl ?_
  refine mW_iconst (v := 4) dL_law_677 (by decide) ?_
  refine mW_iadd dL_law_678 ?_
  refine mW_scr (i := x4 + 4) dL_law_679 s4 ?_
  refine mW_callV (As := [.int (mScr G ((x4 + 1).toNatClampNeg)), .int (mScr G ((x4 + 2).toNatClampNeg)), .int (mScr G ((x4 + 3).toNatClampNeg)), .int (mScr G ((x4 + 4).toNatClampNeg))]) (rest := []) (kc2 := kc) (ks2 := ks) dL_law_680 l_L_145 rfl h1 rfl (by decide) (k1) (Nat.le_of_ble_eq_true rfl) (by decide) (Nat.zero_add _) (Nat.zero_add _) mRix mRik
set_option maxHeartbeats 4000000 in
set_option maxRecDepth 100000 in
theorem gL_law_683 {G : mG} {nm : String} {kc ks : Nat} {w : mH} {Φ : mF} {a1 a2 a3 : Nat} {x4 x5 x_0 : Int32} {n_a3 : Nat} (h1 : hk w a2 = (11, 0)) (h2 : hk w a3 = (17, n_a3)) (s1 : vp_in 0 n_a3) (k1 : ((hfi w a2 0) = x5) → (¬ (x5 = 0)) → mW G (mL_law nm) 11 kc ks 1930 [(0, .ref (G.2.2.2 5)), (1, .ref a1), (2, .ref a2), (3, .ref a3), (4, .int x4)] [] w Φ) (k2 : ((hfi w a2 0) = x5) → (x5 = 0) → ((lg_cmp (hal w a3 0) x_0.toInt64) = 0) → mW G (mL_law nm) 11 kc ks 1930 [(0, .ref (G.2.2.2 5)), (1, .ref a1), (2, .ref a2), (3, .ref a3), (4, .int x4)] [] w Φ) (k3 : ((hfi w a2 0) = x5) → (x5 = 0) → (¬ ((lg_cmp (hal w a3 0) x_0.toInt64) = 0)) → Φ (.inl (some (.int 0))) w) (k4 : (¬ ((hfi w a2 0) = x5)) → Φ (.inl (some (.int 0))) w) : mW G (mL_law nm) 11 kc ks 683 [(0, .ref (G.2.2.2 5)), (1, .ref a1), (2, .ref a2), (3, .ref a3), (4, .int x4), (5, .int x5)] [.int x_0] w Φ := by
  refine mW_istore (lv2 := [(6, .int x_0), (0, .ref (G.2.2.2 5)), (1, .ref a1), (2, .ref a2), (3, .ref a3), (4, .int x4), (5, .int x5)]) dL_law_683 (Nat.le_of_ble_eq_true rfl) rfl ?_
  refine mW_aload_n (j := 3) dL_law_685 rfl rfl ?_
  refine mW_callVe (As := []) (rest := []) (kc2 := kc) (ks2 := ks) dL_law_686 l_L_120 rfl h1 rfl (by decide) (qX11_thrown (w := w) (a0 := a2) h1) (Nat.le_of_ble_eq_true rfl) (by decide) (Nat.zero_add _) (Nat.zero_add _) ?_
  refine mW_iload (j := 6) dL_law_689 rfl ?_
  refine mW_icmp_eq (tgt := 696) dL_law_691 (by decide) (fun c1 => ?_) (fun c1 => ?_)
  · refine mW_iload (j := 6) dL_law_696 rfl ?_
    refine mW_if_ne (tgt := 713) dL_law_698 (by decide) (fun c2 => ?_) (fun c2 => ?_)
    · refine mW_goto (tgt := 1930) dL_law_713 (by decide) ?_
      refine mW_loc [1, 2, 3, 4, 5] (lv2 := [(0, .ref (G.2.2.2 5)), (1, .ref a1), (2, .ref a2), (3, .ref a3), (4, .int x4)]) rfl ?_
      exact k1 c1 c2
    · refine mW_aload_n (j := 4) dL_law_701 rfl rfl ?_
      refine mW_iconst (v := 0) dL_law_702 (by decide) ?_
      refine mW_laldJ dL_law_703 h2 s1 (j := 0) (by decide) ?_
      refine mW_iload (j := 0) dL_law_704 rfl ?_
      refine mW_i2l dL_law_706 ?_
      refine mW_lcmp dL_law_707 ?_
      refine mW_if_eq (tgt := 713) dL_law_708 (by decide) (fun c3 => ?_) (fun c3 => ?_)
      · refine mW_goto (tgt := 1930) dL_law_713 (by decide) ?_
        refine mW_loc [1, 2, 3, 4, 5] (lv2 := [(0, .ref (G.2.2.2 5)), (1, .ref a1), (2, .ref a2), (3, .ref a3), (4, .int x4)]) rfl ?_
        exact k2 c1 c2 c3
      · refine mW_iconst (v := 0) dL_law_711 (by decide) ?_
        exact mW_zret (ty := .boolean) dL_law_712 rfl (by first | rfl | decide) (k3 c1 c2 c3)
  · refine mW_iconst (v := 0) dL_law_694 (by decide) ?_
    exact mW_zret (ty := .boolean) dL_law_695 rfl (by first | rfl | decide) (k4 c1)
theorem u939 : (Cond.codeWith ⟨"LineFollowerBenchLaw", "append", "(LLineFollowerBench;I[J)I"⟩ method_11_code 4 (some .int) [(0, 9, 12, 15), (0, 9, 15, 24)] : Cond) ∈ mTs := mTs_in 939 (by decide +kernel) (by decide +kernel)
theorem u937 : (Cond.methodLink "LineFollowerBenchLaw" 146 ⟨"LineFollowerBenchLaw", "append", "(LLineFollowerBench;I[J)I"⟩ : Cond) ∈ mTs := mTs_in 937 (by decide +kernel) (by decide +kernel)
theorem u938 : (Cond.static ⟨"LineFollowerBenchLaw", "append", "(LLineFollowerBench;I[J)I"⟩ : Cond) ∈ mTs := mTs_in 938 (by decide +kernel) (by decide +kernel)
theorem l_L_146 : mLinkSH "LineFollowerBenchLaw" 146 3 mL_append := ⟨⟨by decide, by decide, by decide +kernel⟩, u939, u69, by decide, u937, u938⟩
set_option maxHeartbeats 4000000 in
set_option maxRecDepth 100000 in
theorem gL_law_716 {G : mG} {nm : String} {kc ks : Nat} {w : mH} {Φ : mF} {a1 a2 a3 : Nat} {x4 : Int32} (s1 : vp_in (x4 + 1) (G.2.2.2 6)) (k1 : mCH G mL_append 10 1 6 [.ref a1, .int (mScr G ((x4 + 1).toNatClampNeg)), .ref a3] w (mRi G (mL_law nm) 11 kc ks 727 [(0, .ref (G.2.2.2 5)), (1, .ref a1), (2, .ref a2), (3, .ref a3), (4, .int x4)] [] Φ)) : mW G (mL_law nm) 11 (kc + 1) (ks + 6) 716 [(0, .ref (G.2.2.2 5)), (1, .ref a1), (2, .ref a2), (3, .ref a3), (4, .int x4)] [] w Φ := by
  refine mW_aload_n (j := 1) dL_law_716 rfl rfl ?_
  refine mW_aload_n (j := 0) dL_law_717 rfl rfl ?_
  refine mW_iload (j := 4) dL_law_718 rfl ?_
  refine mW_iconst (v := 1) dL_law_720 (by decide) ?_
  refine mW_iadd dL_law_721 ?_
  refine mW_scr (i := x4 + 1) dL_law_722 s1 ?_
  refine mW_aload_n (j := 3) dL_law_723 rfl rfl ?_
  refine mW_callSH (As := [.ref a1, .int (mScr G ((x4 + 1).toNatClampNeg)), .ref a3]) (rest := []) (kc2 := kc) (ks2 := ks) dL_law_724 l_L_146 rfl (k1) (Nat.le_of_ble_eq_true rfl) (by decide) (Nat.add_comm _ _) (Nat.add_comm _ _) mRix mRik
theorem u1755 : (Cond.code ⟨"LineFollowerBenchModel", "append", "(I)I"⟩ prog_13_method_26_code 5 (some .int) : Cond) ∈ mTs := mTs_in 1755 (by decide +kernel) (by decide +kernel)
theorem co_X11_append : mCode mX11_append := ⟨u1755, u85, by decide⟩
theorem u1752 : (Cond.methodLink "LineFollowerBenchLaw" 148 ⟨"LineFollowerBenchModel", "append", "(I)I"⟩ : Cond) ∈ mTs := mTs_in 1752 (by decide +kernel) (by decide +kernel)
theorem u1753 : (Cond.instanceMethod ⟨"LineFollowerBenchModel", "append", "(I)I"⟩ : Cond) ∈ mTs := mTs_in 1753 (by decide +kernel) (by decide +kernel)
theorem u1754 : (Cond.selects "LineFollowerBenchModel" ⟨"LineFollowerBenchModel", "append", "(I)I"⟩ ⟨"LineFollowerBenchModel", "append", "(I)I"⟩ : Cond) ∈ mTs := mTs_in 1754 (by decide +kernel) (by decide +kernel)
theorem l_L_148 : mLinkV "LineFollowerBenchLaw" 148 1 mX11_append := ⟨⟨by decide, by decide, by decide +kernel⟩, co_X11_append, u1752, u1753, u1754⟩
set_option maxHeartbeats 4000000 in
set_option maxRecDepth 100000 in
theorem gL_law_727 {G : mG} {nm : String} {kc ks : Nat} {w : mH} {Φ : mF} {a1 a2 a3 : Nat} {x4 x_0 : Int32} (s1 : vp_in (x4 + 1) (G.2.2.2 6)) (h1 : hk w a2 = (11, 0)) (k1 : mC G mX11_append 2 0 0 [.ref a2, .int (mScr G ((x4 + 1).toNatClampNeg))] w (mRi G (mL_law nm) 11 kc ks 739 [(5, .int x_0), (0, .ref (G.2.2.2 5)), (1, .ref a1), (2, .ref a2), (3, .ref a3), (4, .int x4)] [] Φ)) : mW G (mL_law nm) 11 kc ks 727 [(0, .ref (G.2.2.2 5)), (1, .ref a1), (2, .ref a2), (3, .ref a3), (4, .int x4)] [.int x_0] w Φ := by
  refine mW_istore (lv2 := [(5, .int x_0), (0, .ref (G.2.2.2 5)), (1, .ref a1), (2, .ref a2), (3, .ref a3), (4, .int x4)]) dL_law_727 (Nat.le_of_ble_eq_true rfl) rfl ?_
  refine mW_aload_n (j := 3) dL_law_729 rfl rfl ?_
  refine mW_aload_n (j := 1) dL_law_730 rfl rfl ?_
  refine mW_iload (j := 5) dL_law_731 rfl ?_
  refine mW_iconst (v := 1) dL_law_733 (by decide) ?_
  refine mW_iadd dL_law_734 ?_
  refine mW_scr (i := x4 + 1) dL_law_735 s1 ?_
  refine mW_callV (As := [.int (mScr G ((x4 + 1).toNatClampNeg))]) (rest := []) (kc2 := kc) (ks2 := ks) dL_law_736 l_L_148 rfl h1 rfl (by decide) (k1) (Nat.le_of_ble_eq_true rfl) (by decide) (Nat.zero_add _) (Nat.zero_add _) mRix mRik
set_option maxHeartbeats 4000000 in
set_option maxRecDepth 100000 in
theorem gL_law_739 {G : mG} {nm : String} {kc ks : Nat} {w : mH} {Φ : mF} {a1 a2 a3 : Nat} {x4 x5 x_0 : Int32} {n_a3 : Nat} (h1 : hk w a2 = (11, 0)) (h2 : hk w a3 = (17, n_a3)) (s1 : vp_in 0 n_a3) (k1 : ((hfi w a2 0) = x5) → (¬ (x5 = 0)) → mW G (mL_law nm) 11 kc ks 1930 [(0, .ref (G.2.2.2 5)), (1, .ref a1), (2, .ref a2), (3, .ref a3), (4, .int x4)] [] w Φ) (k2 : ((hfi w a2 0) = x5) → (x5 = 0) → ((lg_cmp (hal w a3 0) x_0.toInt64) = 0) → mW G (mL_law nm) 11 kc ks 1930 [(0, .ref (G.2.2.2 5)), (1, .ref a1), (2, .ref a2), (3, .ref a3), (4, .int x4)] [] w Φ) (k3 : ((hfi w a2 0) = x5) → (x5 = 0) → (¬ ((lg_cmp (hal w a3 0) x_0.toInt64) = 0)) → Φ (.inl (some (.int 0))) w) (k4 : (¬ ((hfi w a2 0) = x5)) → Φ (.inl (some (.int 0))) w) : mW G (mL_law nm) 11 kc ks 739 [(0, .ref (G.2.2.2 5)), (1, .ref a1), (2, .ref a2), (3, .ref a3), (4, .int x4), (5, .int x5)] [.int x_0] w Φ := by
  refine mW_istore (lv2 := [(6, .int x_0), (0, .ref (G.2.2.2 5)), (1, .ref a1), (2, .ref a2), (3, .ref a3), (4, .int x4), (5, .int x5)]) dL_law_739 (Nat.le_of_ble_eq_true rfl) rfl ?_
  refine mW_aload_n (j := 3) dL_law_741 rfl rfl ?_
  refine mW_callVe (As := []) (rest := []) (kc2 := kc) (ks2 := ks) dL_law_742 l_L_120 rfl h1 rfl (by decide) (qX11_thrown (w := w) (a0 := a2) h1) (Nat.le_of_ble_eq_true rfl) (by decide) (Nat.zero_add _) (Nat.zero_add _) ?_
  refine mW_iload (j := 6) dL_law_745 rfl ?_
  refine mW_icmp_eq (tgt := 752) dL_law_747 (by decide) (fun c1 => ?_) (fun c1 => ?_)
  · refine mW_iload (j := 6) dL_law_752 rfl ?_
    refine mW_if_ne (tgt := 769) dL_law_754 (by decide) (fun c2 => ?_) (fun c2 => ?_)
    · refine mW_goto (tgt := 1930) dL_law_769 (by decide) ?_
      refine mW_loc [1, 2, 3, 4, 5] (lv2 := [(0, .ref (G.2.2.2 5)), (1, .ref a1), (2, .ref a2), (3, .ref a3), (4, .int x4)]) rfl ?_
      exact k1 c1 c2
    · refine mW_aload_n (j := 4) dL_law_757 rfl rfl ?_
      refine mW_iconst (v := 0) dL_law_758 (by decide) ?_
      refine mW_laldJ dL_law_759 h2 s1 (j := 0) (by decide) ?_
      refine mW_iload (j := 0) dL_law_760 rfl ?_
      refine mW_i2l dL_law_762 ?_
      refine mW_lcmp dL_law_763 ?_
      refine mW_if_eq (tgt := 769) dL_law_764 (by decide) (fun c3 => ?_) (fun c3 => ?_)
      · refine mW_goto (tgt := 1930) dL_law_769 (by decide) ?_
        refine mW_loc [1, 2, 3, 4, 5] (lv2 := [(0, .ref (G.2.2.2 5)), (1, .ref a1), (2, .ref a2), (3, .ref a3), (4, .int x4)]) rfl ?_
        exact k2 c1 c2 c3
      · refine mW_iconst (v := 0) dL_law_767 (by decide) ?_
        exact mW_zret (ty := .boolean) dL_law_768 rfl (by first | rfl | decide) (k3 c1 c2 c3)
  · refine mW_iconst (v := 0) dL_law_750 (by decide) ?_
    exact mW_zret (ty := .boolean) dL_law_751 rfl (by first | rfl | decide) (k4 c1)
theorem u960 : (Cond.codeWith ⟨"LineFollowerBenchLaw", "load", "(LLineFollowerBench;[J)I"⟩ method_12_code 3 (some .int) [(0, 8, 11, 15)] : Cond) ∈ mTs := mTs_in 960 (by decide +kernel) (by decide +kernel)
theorem u958 : (Cond.methodLink "LineFollowerBenchLaw" 149 ⟨"LineFollowerBenchLaw", "load", "(LLineFollowerBench;[J)I"⟩ : Cond) ∈ mTs := mTs_in 958 (by decide +kernel) (by decide +kernel)
theorem u959 : (Cond.static ⟨"LineFollowerBenchLaw", "load", "(LLineFollowerBench;[J)I"⟩ : Cond) ∈ mTs := mTs_in 959 (by decide +kernel) (by decide +kernel)
theorem l_L_149 : mLinkSH "LineFollowerBenchLaw" 149 2 mL_load := ⟨⟨by decide, by decide, by decide +kernel⟩, u960, u69, by decide, u958, u959⟩
set_option maxHeartbeats 4000000 in
set_option maxRecDepth 100000 in
theorem gL_law_772 {G : mG} {nm : String} {kc ks : Nat} {w : mH} {Φ : mF} {a1 a2 a3 : Nat} {x4 : Int32}  (k1 : mCH G mL_load 10 1 6 [.ref a1, .ref a3] w (mRi G (mL_law nm) 11 kc ks 777 [(0, .ref (G.2.2.2 5)), (1, .ref a1), (2, .ref a2), (3, .ref a3), (4, .int x4)] [] Φ)) : mW G (mL_law nm) 11 (kc + 1) (ks + 6) 772 [(0, .ref (G.2.2.2 5)), (1, .ref a1), (2, .ref a2), (3, .ref a3), (4, .int x4)] [] w Φ := by
  refine mW_aload_n (j := 1) dL_law_772 rfl rfl ?_
  refine mW_aload_n (j := 3) dL_law_773 rfl rfl ?_
  refine mW_callSH (As := [.ref a1, .ref a3]) (rest := []) (kc2 := kc) (ks2 := ks) dL_law_774 l_L_149 rfl (k1) (Nat.le_of_ble_eq_true rfl) (by decide) (Nat.add_comm _ _) (Nat.add_comm _ _) mRix mRik
theorem u1761 : (Cond.code ⟨"LineFollowerBenchModel", "load", "()I"⟩ prog_13_method_32_code 2 (some .int) : Cond) ∈ mTs := mTs_in 1761 (by decide +kernel) (by decide +kernel)
theorem co_X11_load : mCode mX11_load := ⟨u1761, u85, by decide⟩
theorem u1758 : (Cond.methodLink "LineFollowerBenchLaw" 152 ⟨"LineFollowerBenchModel", "load", "()I"⟩ : Cond) ∈ mTs := mTs_in 1758 (by decide +kernel) (by decide +kernel)
theorem u1759 : (Cond.instanceMethod ⟨"LineFollowerBenchModel", "load", "()I"⟩ : Cond) ∈ mTs := mTs_in 1759 (by decide +kernel) (by decide +kernel)
theorem u1760 : (Cond.selects "LineFollowerBenchModel" ⟨"LineFollowerBenchModel", "load", "()I"⟩ ⟨"LineFollowerBenchModel", "load", "()I"⟩ : Cond) ∈ mTs := mTs_in 1760 (by decide +kernel) (by decide +kernel)
theorem l_L_152 : mLinkV "LineFollowerBenchLaw" 152 0 mX11_load := ⟨⟨by decide, by decide, by decide +kernel⟩, co_X11_load, u1758, u1759, u1760⟩
set_option maxHeartbeats 4000000 in
set_option maxRecDepth 100000 in
theorem gL_law_777 {G : mG} {nm : String} {kc ks : Nat} {w : mH} {Φ : mF} {a1 a2 a3 : Nat} {x4 x_0 : Int32} (h1 : hk w a2 = (11, 0)) (k1 : mC G mX11_load 6 0 0 [.ref a2] w (mRi G (mL_law nm) 11 kc ks 783 [(5, .int x_0), (0, .ref (G.2.2.2 5)), (1, .ref a1), (2, .ref a2), (3, .ref a3), (4, .int x4)] [] Φ)) : mW G (mL_law nm) 11 kc ks 777 [(0, .ref (G.2.2.2 5)), (1, .ref a1), (2, .ref a2), (3, .ref a3), (4, .int x4)] [.int x_0] w Φ := by
  refine mW_istore (lv2 := [(5, .int x_0), (0, .ref (G.2.2.2 5)), (1, .ref a1), (2, .ref a2), (3, .ref a3), (4, .int x4)]) dL_law_777 (Nat.le_of_ble_eq_true rfl) rfl ?_
  refine mW_aload_n (j := 3) dL_law_779 rfl rfl ?_
  refine mW_callV (As := []) (rest := []) (kc2 := kc) (ks2 := ks) dL_law_780 l_L_152 rfl h1 rfl (by decide) (k1) (Nat.le_of_ble_eq_true rfl) (by decide) (Nat.zero_add _) (Nat.zero_add _) mRix mRik
set_option maxHeartbeats 4000000 in
set_option maxRecDepth 100000 in
theorem gL_law_783 {G : mG} {nm : String} {kc ks : Nat} {w : mH} {Φ : mF} {a1 a2 a3 : Nat} {x4 x5 x_0 : Int32} {n_a3 : Nat} (h1 : hk w a2 = (11, 0)) (h2 : hk w a3 = (17, n_a3)) (s1 : vp_in 0 n_a3) (k1 : ((hfi w a2 0) = x5) → (¬ (x5 = 0)) → mW G (mL_law nm) 11 kc ks 1930 [(0, .ref (G.2.2.2 5)), (1, .ref a1), (2, .ref a2), (3, .ref a3), (4, .int x4)] [] w Φ) (k2 : ((hfi w a2 0) = x5) → (x5 = 0) → ((lg_cmp (hal w a3 0) x_0.toInt64) = 0) → mW G (mL_law nm) 11 kc ks 1930 [(0, .ref (G.2.2.2 5)), (1, .ref a1), (2, .ref a2), (3, .ref a3), (4, .int x4)] [] w Φ) (k3 : ((hfi w a2 0) = x5) → (x5 = 0) → (¬ ((lg_cmp (hal w a3 0) x_0.toInt64) = 0)) → Φ (.inl (some (.int 0))) w) (k4 : (¬ ((hfi w a2 0) = x5)) → Φ (.inl (some (.int 0))) w) : mW G (mL_law nm) 11 kc ks 783 [(0, .ref (G.2.2.2 5)), (1, .ref a1), (2, .ref a2), (3, .ref a3), (4, .int x4), (5, .int x5)] [.int x_0] w Φ := by
  refine mW_istore (lv2 := [(6, .int x_0), (0, .ref (G.2.2.2 5)), (1, .ref a1), (2, .ref a2), (3, .ref a3), (4, .int x4), (5, .int x5)]) dL_law_783 (Nat.le_of_ble_eq_true rfl) rfl ?_
  refine mW_aload_n (j := 3) dL_law_785 rfl rfl ?_
  refine mW_callVe (As := []) (rest := []) (kc2 := kc) (ks2 := ks) dL_law_786 l_L_120 rfl h1 rfl (by decide) (qX11_thrown (w := w) (a0 := a2) h1) (Nat.le_of_ble_eq_true rfl) (by decide) (Nat.zero_add _) (Nat.zero_add _) ?_
  refine mW_iload (j := 6) dL_law_789 rfl ?_
  refine mW_icmp_eq (tgt := 796) dL_law_791 (by decide) (fun c1 => ?_) (fun c1 => ?_)
  · refine mW_iload (j := 6) dL_law_796 rfl ?_
    refine mW_if_ne (tgt := 813) dL_law_798 (by decide) (fun c2 => ?_) (fun c2 => ?_)
    · refine mW_goto (tgt := 1930) dL_law_813 (by decide) ?_
      refine mW_loc [1, 2, 3, 4, 5] (lv2 := [(0, .ref (G.2.2.2 5)), (1, .ref a1), (2, .ref a2), (3, .ref a3), (4, .int x4)]) rfl ?_
      exact k1 c1 c2
    · refine mW_aload_n (j := 4) dL_law_801 rfl rfl ?_
      refine mW_iconst (v := 0) dL_law_802 (by decide) ?_
      refine mW_laldJ dL_law_803 h2 s1 (j := 0) (by decide) ?_
      refine mW_iload (j := 0) dL_law_804 rfl ?_
      refine mW_i2l dL_law_806 ?_
      refine mW_lcmp dL_law_807 ?_
      refine mW_if_eq (tgt := 813) dL_law_808 (by decide) (fun c3 => ?_) (fun c3 => ?_)
      · refine mW_goto (tgt := 1930) dL_law_813 (by decide) ?_
        refine mW_loc [1, 2, 3, 4, 5] (lv2 := [(0, .ref (G.2.2.2 5)), (1, .ref a1), (2, .ref a2), (3, .ref a3), (4, .int x4)]) rfl ?_
        exact k2 c1 c2 c3
      · refine mW_iconst (v := 0) dL_law_811 (by decide) ?_
        exact mW_zret (ty := .boolean) dL_law_812 rfl (by first | rfl | decide) (k3 c1 c2 c3)
  · refine mW_iconst (v := 0) dL_law_794 (by decide) ?_
    exact mW_zret (ty := .boolean) dL_law_795 rfl (by first | rfl | decide) (k4 c1)
theorem u487 : (Cond.code ⟨"LineFollowerBench", "errorPosition", "()I"⟩ prog_1_method_12_code 1 (some .int) : Cond) ∈ mTs := mTs_in 487 (by decide +kernel) (by decide +kernel)
theorem co_X10_errorPosition : mCode mX10_errorPosition := ⟨u487, u70, by decide⟩
theorem u484 : (Cond.methodLink "LineFollowerBenchLaw" 153 ⟨"LineFollowerBench", "errorPosition", "()I"⟩ : Cond) ∈ mTs := mTs_in 484 (by decide +kernel) (by decide +kernel)
theorem u485 : (Cond.instanceMethod ⟨"LineFollowerBench", "errorPosition", "()I"⟩ : Cond) ∈ mTs := mTs_in 485 (by decide +kernel) (by decide +kernel)
theorem u486 : (Cond.selects "LineFollowerBench" ⟨"LineFollowerBench", "errorPosition", "()I"⟩ ⟨"LineFollowerBench", "errorPosition", "()I"⟩ : Cond) ∈ mTs := mTs_in 486 (by decide +kernel) (by decide +kernel)
theorem l_L_153 : mLinkV "LineFollowerBenchLaw" 153 0 mX10_errorPosition := ⟨⟨by decide, by decide, by decide +kernel⟩, co_X10_errorPosition, u484, u485, u486⟩
set_option maxHeartbeats 4000000 in
set_option maxRecDepth 100000 in
theorem gL_law_816 {G : mG} {nm : String} {kc ks : Nat} {w : mH} {Φ : mF} {a1 a2 a3 : Nat} {x4 : Int32} (h1 : hk w a1 = (10, 0)) (k1 : mC G mX10_errorPosition 1 0 0 [.ref a1] w (mRi G (mL_law nm) 11 kc ks 820 [(0, .ref (G.2.2.2 5)), (1, .ref a1), (2, .ref a2), (3, .ref a3), (4, .int x4)] [] Φ)) : mW G (mL_law nm) 11 kc ks 816 [(0, .ref (G.2.2.2 5)), (1, .ref a1), (2, .ref a2), (3, .ref a3), (4, .int x4)] [] w Φ := by
  refine mW_aload_n (j := 1) dL_law_816 rfl rfl ?_
  refine mW_callV (As := []) (rest := []) (kc2 := kc) (ks2 := ks) dL_law_817 l_L_153 rfl h1 rfl (by decide) (k1) (Nat.le_of_ble_eq_true rfl) (by decide) (Nat.zero_add _) (Nat.zero_add _) mRix mRik
theorem u1787 : (Cond.code ⟨"LineFollowerBenchModel", "errorPosition", "()I"⟩ prog_13_method_33_code 1 (some .int) : Cond) ∈ mTs := mTs_in 1787 (by decide +kernel) (by decide +kernel)
theorem co_X11_errorPosition : mCode mX11_errorPosition := ⟨u1787, u85, by decide⟩
theorem u1784 : (Cond.methodLink "LineFollowerBenchLaw" 156 ⟨"LineFollowerBenchModel", "errorPosition", "()I"⟩ : Cond) ∈ mTs := mTs_in 1784 (by decide +kernel) (by decide +kernel)
theorem u1785 : (Cond.instanceMethod ⟨"LineFollowerBenchModel", "errorPosition", "()I"⟩ : Cond) ∈ mTs := mTs_in 1785 (by decide +kernel) (by decide +kernel)
theorem u1786 : (Cond.selects "LineFollowerBenchModel" ⟨"LineFollowerBenchModel", "errorPosition", "()I"⟩ ⟨"LineFollowerBenchModel", "errorPosition", "()I"⟩ : Cond) ∈ mTs := mTs_in 1786 (by decide +kernel) (by decide +kernel)
theorem l_L_156 : mLinkV "LineFollowerBenchLaw" 156 0 mX11_errorPosition := ⟨⟨by decide, by decide, by decide +kernel⟩, co_X11_errorPosition, u1784, u1785, u1786⟩
set_option maxHeartbeats 4000000 in
set_option maxRecDepth 100000 in
theorem gL_law_820 {G : mG} {nm : String} {kc ks : Nat} {w : mH} {Φ : mF} {a1 a2 a3 : Nat} {x4 x_0 : Int32} (h1 : hk w a2 = (11, 0)) (k1 : mC G mX11_errorPosition 1 0 0 [.ref a2] w (mRi G (mL_law nm) 11 kc ks 824 [(0, .ref (G.2.2.2 5)), (1, .ref a1), (2, .ref a2), (3, .ref a3), (4, .int x4)] [.int x_0] Φ)) : mW G (mL_law nm) 11 kc ks 820 [(0, .ref (G.2.2.2 5)), (1, .ref a1), (2, .ref a2), (3, .ref a3), (4, .int x4)] [.int x_0] w Φ := by
  refine mW_aload_n (j := 2) dL_law_820 rfl rfl ?_
  refine mW_callV (As := []) (rest := [.int x_0]) (kc2 := kc) (ks2 := ks) dL_law_821 l_L_156 rfl h1 rfl (by decide) (k1) (Nat.le_of_ble_eq_true rfl) (by decide) (Nat.zero_add _) (Nat.zero_add _) mRix mRik
set_option maxHeartbeats 4000000 in
set_option maxRecDepth 100000 in
theorem gL_law_824 {G : mG} {nm : String} {kc ks : Nat} {w : mH} {Φ : mF} {a1 a2 a3 : Nat} {x4 x_0 x_1 : Int32}  (k1 : (x_1 = x_0) → mW G (mL_law nm) 11 kc ks 1930 [(0, .ref (G.2.2.2 5)), (1, .ref a1), (2, .ref a2), (3, .ref a3), (4, .int x4)] [] w Φ) (k2 : (¬ (x_1 = x_0)) → Φ (.inl (some (.int 0))) w) : mW G (mL_law nm) 11 kc ks 824 [(0, .ref (G.2.2.2 5)), (1, .ref a1), (2, .ref a2), (3, .ref a3), (4, .int x4)] [.int x_0, .int x_1] w Φ := by
  refine mW_icmp_eq (tgt := 1930) dL_law_824 (by decide) (fun c1 => ?_) (fun c1 => ?_)
  · exact k1 c1
  · refine mW_iconst (v := 0) dL_law_827 (by decide) ?_
    exact mW_zret (ty := .boolean) dL_law_828 rfl (by first | rfl | decide) (k2 c1)
theorem u1027 : (Cond.codeWith ⟨"LineFollowerBenchLaw", "describe", "(LLineFollowerBench;I[J)I"⟩ method_13_code 4 (some .int) [(0, 9, 12, 13)] : Cond) ∈ mTs := mTs_in 1027 (by decide +kernel) (by decide +kernel)
theorem u1025 : (Cond.methodLink "LineFollowerBenchLaw" 157 ⟨"LineFollowerBenchLaw", "describe", "(LLineFollowerBench;I[J)I"⟩ : Cond) ∈ mTs := mTs_in 1025 (by decide +kernel) (by decide +kernel)
theorem u1026 : (Cond.static ⟨"LineFollowerBenchLaw", "describe", "(LLineFollowerBench;I[J)I"⟩ : Cond) ∈ mTs := mTs_in 1026 (by decide +kernel) (by decide +kernel)
theorem l_L_157 : mLinkSH "LineFollowerBenchLaw" 157 3 mL_describe := ⟨⟨by decide, by decide, by decide +kernel⟩, u1027, u69, by decide, u1025, u1026⟩
set_option maxHeartbeats 4000000 in
set_option maxRecDepth 100000 in
theorem gL_law_829 {G : mG} {nm : String} {kc ks : Nat} {w : mH} {Φ : mF} {a1 a2 a3 : Nat} {x4 : Int32} (s1 : vp_in (x4 + 1) (G.2.2.2 6)) (k1 : mCH G mL_describe 10 84 11792 [.ref a1, .int (mScr G ((x4 + 1).toNatClampNeg)), .ref a3] w (mRi G (mL_law nm) 11 kc ks 840 [(0, .ref (G.2.2.2 5)), (1, .ref a1), (2, .ref a2), (3, .ref a3), (4, .int x4)] [] Φ)) : mW G (mL_law nm) 11 (kc + 84) (ks + 11792) 829 [(0, .ref (G.2.2.2 5)), (1, .ref a1), (2, .ref a2), (3, .ref a3), (4, .int x4)] [] w Φ := by
  refine mW_aload_n (j := 1) dL_law_829 rfl rfl ?_
  refine mW_aload_n (j := 0) dL_law_830 rfl rfl ?_
  refine mW_iload (j := 4) dL_law_831 rfl ?_
  refine mW_iconst (v := 1) dL_law_833 (by decide) ?_
  refine mW_iadd dL_law_834 ?_
  refine mW_scr (i := x4 + 1) dL_law_835 s1 ?_
  refine mW_aload_n (j := 3) dL_law_836 rfl rfl ?_
  refine mW_callSH (As := [.ref a1, .int (mScr G ((x4 + 1).toNatClampNeg)), .ref a3]) (rest := []) (kc2 := kc) (ks2 := ks) dL_law_837 l_L_157 rfl (k1) (Nat.le_of_ble_eq_true rfl) (by decide) (Nat.add_comm _ _) (Nat.add_comm _ _) mRix mRik
theorem u1791 : (Cond.code ⟨"LineFollowerBenchModel", "describe", "(I)I"⟩ prog_13_method_36_code 4 (some .int) : Cond) ∈ mTs := mTs_in 1791 (by decide +kernel) (by decide +kernel)
theorem co_X11_describe : mCode mX11_describe := ⟨u1791, u85, by decide⟩
theorem u1788 : (Cond.methodLink "LineFollowerBenchLaw" 159 ⟨"LineFollowerBenchModel", "describe", "(I)I"⟩ : Cond) ∈ mTs := mTs_in 1788 (by decide +kernel) (by decide +kernel)
theorem u1789 : (Cond.instanceMethod ⟨"LineFollowerBenchModel", "describe", "(I)I"⟩ : Cond) ∈ mTs := mTs_in 1789 (by decide +kernel) (by decide +kernel)
theorem u1790 : (Cond.selects "LineFollowerBenchModel" ⟨"LineFollowerBenchModel", "describe", "(I)I"⟩ ⟨"LineFollowerBenchModel", "describe", "(I)I"⟩ : Cond) ∈ mTs := mTs_in 1790 (by decide +kernel) (by decide +kernel)
theorem l_L_159 : mLinkV "LineFollowerBenchLaw" 159 1 mX11_describe := ⟨⟨by decide, by decide, by decide +kernel⟩, co_X11_describe, u1788, u1789, u1790⟩
set_option maxHeartbeats 4000000 in
set_option maxRecDepth 100000 in
theorem gL_law_840 {G : mG} {nm : String} {kc ks : Nat} {w : mH} {Φ : mF} {a1 a2 a3 : Nat} {x4 x_0 : Int32} (s1 : vp_in (x4 + 1) (G.2.2.2 6)) (h1 : hk w a2 = (11, 0)) (k1 : mC G mX11_describe 3 0 0 [.ref a2, .int (mScr G ((x4 + 1).toNatClampNeg))] w (mRi G (mL_law nm) 11 kc ks 852 [(5, .int x_0), (0, .ref (G.2.2.2 5)), (1, .ref a1), (2, .ref a2), (3, .ref a3), (4, .int x4)] [] Φ)) : mW G (mL_law nm) 11 kc ks 840 [(0, .ref (G.2.2.2 5)), (1, .ref a1), (2, .ref a2), (3, .ref a3), (4, .int x4)] [.int x_0] w Φ := by
  refine mW_istore (lv2 := [(5, .int x_0), (0, .ref (G.2.2.2 5)), (1, .ref a1), (2, .ref a2), (3, .ref a3), (4, .int x4)]) dL_law_840 (Nat.le_of_ble_eq_true rfl) rfl ?_
  refine mW_aload_n (j := 3) dL_law_842 rfl rfl ?_
  refine mW_aload_n (j := 1) dL_law_843 rfl rfl ?_
  refine mW_iload (j := 5) dL_law_844 rfl ?_
  refine mW_iconst (v := 1) dL_law_846 (by decide) ?_
  refine mW_iadd dL_law_847 ?_
  refine mW_scr (i := x4 + 1) dL_law_848 s1 ?_
  refine mW_callV (As := [.int (mScr G ((x4 + 1).toNatClampNeg))]) (rest := []) (kc2 := kc) (ks2 := ks) dL_law_849 l_L_159 rfl h1 rfl (by decide) (k1) (Nat.le_of_ble_eq_true rfl) (by decide) (Nat.zero_add _) (Nat.zero_add _) mRix mRik
set_option maxHeartbeats 4000000 in
set_option maxRecDepth 100000 in
theorem gL_law_852 {G : mG} {nm : String} {kc ks : Nat} {w : mH} {Φ : mF} {a1 a2 a3 : Nat} {x4 x5 x_0 : Int32} {n_a3 : Nat} (h1 : hk w a2 = (11, 0)) (h2 : hk w a3 = (17, n_a3)) (s1 : vp_in 0 n_a3) (k1 : ((hfi w a2 0) = x5) → (¬ (x5 = 0)) → mW G (mL_law nm) 11 kc ks 1930 [(0, .ref (G.2.2.2 5)), (1, .ref a1), (2, .ref a2), (3, .ref a3), (4, .int x4)] [] w Φ) (k2 : ((hfi w a2 0) = x5) → (x5 = 0) → ((lg_cmp (hal w a3 0) x_0.toInt64) = 0) → mW G (mL_law nm) 11 kc ks 1930 [(0, .ref (G.2.2.2 5)), (1, .ref a1), (2, .ref a2), (3, .ref a3), (4, .int x4)] [] w Φ) (k3 : ((hfi w a2 0) = x5) → (x5 = 0) → (¬ ((lg_cmp (hal w a3 0) x_0.toInt64) = 0)) → Φ (.inl (some (.int 0))) w) (k4 : (¬ ((hfi w a2 0) = x5)) → Φ (.inl (some (.int 0))) w) : mW G (mL_law nm) 11 kc ks 852 [(0, .ref (G.2.2.2 5)), (1, .ref a1), (2, .ref a2), (3, .ref a3), (4, .int x4), (5, .int x5)] [.int x_0] w Φ := by
  refine mW_istore (lv2 := [(6, .int x_0), (0, .ref (G.2.2.2 5)), (1, .ref a1), (2, .ref a2), (3, .ref a3), (4, .int x4), (5, .int x5)]) dL_law_852 (Nat.le_of_ble_eq_true rfl) rfl ?_
  refine mW_aload_n (j := 3) dL_law_854 rfl rfl ?_
  refine mW_callVe (As := []) (rest := []) (kc2 := kc) (ks2 := ks) dL_law_855 l_L_120 rfl h1 rfl (by decide) (qX11_thrown (w := w) (a0 := a2) h1) (Nat.le_of_ble_eq_true rfl) (by decide) (Nat.zero_add _) (Nat.zero_add _) ?_
  refine mW_iload (j := 6) dL_law_858 rfl ?_
  refine mW_icmp_eq (tgt := 865) dL_law_860 (by decide) (fun c1 => ?_) (fun c1 => ?_)
  · refine mW_iload (j := 6) dL_law_865 rfl ?_
    refine mW_if_ne (tgt := 882) dL_law_867 (by decide) (fun c2 => ?_) (fun c2 => ?_)
    · refine mW_goto (tgt := 1930) dL_law_882 (by decide) ?_
      refine mW_loc [1, 2, 3, 4, 5] (lv2 := [(0, .ref (G.2.2.2 5)), (1, .ref a1), (2, .ref a2), (3, .ref a3), (4, .int x4)]) rfl ?_
      exact k1 c1 c2
    · refine mW_aload_n (j := 4) dL_law_870 rfl rfl ?_
      refine mW_iconst (v := 0) dL_law_871 (by decide) ?_
      refine mW_laldJ dL_law_872 h2 s1 (j := 0) (by decide) ?_
      refine mW_iload (j := 0) dL_law_873 rfl ?_
      refine mW_i2l dL_law_875 ?_
      refine mW_lcmp dL_law_876 ?_
      refine mW_if_eq (tgt := 882) dL_law_877 (by decide) (fun c3 => ?_) (fun c3 => ?_)
      · refine mW_goto (tgt := 1930) dL_law_882 (by decide) ?_
        refine mW_loc [1, 2, 3, 4, 5] (lv2 := [(0, .ref (G.2.2.2 5)), (1, .ref a1), (2, .ref a2), (3, .ref a3), (4, .int x4)]) rfl ?_
        exact k2 c1 c2 c3
      · refine mW_iconst (v := 0) dL_law_880 (by decide) ?_
        exact mW_zret (ty := .boolean) dL_law_881 rfl (by first | rfl | decide) (k3 c1 c2 c3)
  · refine mW_iconst (v := 0) dL_law_863 (by decide) ?_
    exact mW_zret (ty := .boolean) dL_law_864 rfl (by first | rfl | decide) (k4 c1)
theorem u1344 : (Cond.codeWith ⟨"LineFollowerBenchLaw", "curvature", "(LLineFollowerBench;I[J)I"⟩ method_14_code 4 (some .int) [(0, 9, 12, 13)] : Cond) ∈ mTs := mTs_in 1344 (by decide +kernel) (by decide +kernel)
theorem u1342 : (Cond.methodLink "LineFollowerBenchLaw" 160 ⟨"LineFollowerBenchLaw", "curvature", "(LLineFollowerBench;I[J)I"⟩ : Cond) ∈ mTs := mTs_in 1342 (by decide +kernel) (by decide +kernel)
theorem u1343 : (Cond.static ⟨"LineFollowerBenchLaw", "curvature", "(LLineFollowerBench;I[J)I"⟩ : Cond) ∈ mTs := mTs_in 1343 (by decide +kernel) (by decide +kernel)
theorem l_L_160 : mLinkSH "LineFollowerBenchLaw" 160 3 mL_curvature := ⟨⟨by decide, by decide, by decide +kernel⟩, u1344, u69, by decide, u1342, u1343⟩
set_option maxHeartbeats 4000000 in
set_option maxRecDepth 100000 in
theorem gL_law_885 {G : mG} {nm : String} {kc ks : Nat} {w : mH} {Φ : mF} {a1 a2 a3 : Nat} {x4 : Int32} (s1 : vp_in (x4 + 1) (G.2.2.2 6)) (k1 : mCH G mL_curvature 10 1 6 [.ref a1, .int (mScr G ((x4 + 1).toNatClampNeg)), .ref a3] w (mRi G (mL_law nm) 11 kc ks 896 [(0, .ref (G.2.2.2 5)), (1, .ref a1), (2, .ref a2), (3, .ref a3), (4, .int x4)] [] Φ)) : mW G (mL_law nm) 11 (kc + 1) (ks + 6) 885 [(0, .ref (G.2.2.2 5)), (1, .ref a1), (2, .ref a2), (3, .ref a3), (4, .int x4)] [] w Φ := by
  refine mW_aload_n (j := 1) dL_law_885 rfl rfl ?_
  refine mW_aload_n (j := 0) dL_law_886 rfl rfl ?_
  refine mW_iload (j := 4) dL_law_887 rfl ?_
  refine mW_iconst (v := 1) dL_law_889 (by decide) ?_
  refine mW_iadd dL_law_890 ?_
  refine mW_scr (i := x4 + 1) dL_law_891 s1 ?_
  refine mW_aload_n (j := 3) dL_law_892 rfl rfl ?_
  refine mW_callSH (As := [.ref a1, .int (mScr G ((x4 + 1).toNatClampNeg)), .ref a3]) (rest := []) (kc2 := kc) (ks2 := ks) dL_law_893 l_L_160 rfl (k1) (Nat.le_of_ble_eq_true rfl) (by decide) (Nat.add_comm _ _) (Nat.add_comm _ _) mRix mRik
theorem u1807 : (Cond.code ⟨"LineFollowerBenchModel", "curvature", "(I)I"⟩ prog_13_method_39_code 2 (some .int) : Cond) ∈ mTs := mTs_in 1807 (by decide +kernel) (by decide +kernel)
theorem co_X11_curvature : mCode mX11_curvature := ⟨u1807, u85, by decide⟩
theorem u1804 : (Cond.methodLink "LineFollowerBenchLaw" 162 ⟨"LineFollowerBenchModel", "curvature", "(I)I"⟩ : Cond) ∈ mTs := mTs_in 1804 (by decide +kernel) (by decide +kernel)
theorem u1805 : (Cond.instanceMethod ⟨"LineFollowerBenchModel", "curvature", "(I)I"⟩ : Cond) ∈ mTs := mTs_in 1805 (by decide +kernel) (by decide +kernel)
theorem u1806 : (Cond.selects "LineFollowerBenchModel" ⟨"LineFollowerBenchModel", "curvature", "(I)I"⟩ ⟨"LineFollowerBenchModel", "curvature", "(I)I"⟩ : Cond) ∈ mTs := mTs_in 1806 (by decide +kernel) (by decide +kernel)
theorem l_L_162 : mLinkV "LineFollowerBenchLaw" 162 1 mX11_curvature := ⟨⟨by decide, by decide, by decide +kernel⟩, co_X11_curvature, u1804, u1805, u1806⟩
set_option maxHeartbeats 4000000 in
set_option maxRecDepth 100000 in
theorem gL_law_896 {G : mG} {nm : String} {kc ks : Nat} {w : mH} {Φ : mF} {a1 a2 a3 : Nat} {x4 x_0 : Int32} (s1 : vp_in (x4 + 1) (G.2.2.2 6)) (h1 : hk w a2 = (11, 0)) (k1 : mC G mX11_curvature 2 0 0 [.ref a2, .int (mScr G ((x4 + 1).toNatClampNeg))] w (mRi G (mL_law nm) 11 kc ks 908 [(5, .int x_0), (0, .ref (G.2.2.2 5)), (1, .ref a1), (2, .ref a2), (3, .ref a3), (4, .int x4)] [] Φ)) : mW G (mL_law nm) 11 kc ks 896 [(0, .ref (G.2.2.2 5)), (1, .ref a1), (2, .ref a2), (3, .ref a3), (4, .int x4)] [.int x_0] w Φ := by
  refine mW_istore (lv2 := [(5, .int x_0), (0, .ref (G.2.2.2 5)), (1, .ref a1), (2, .ref a2), (3, .ref a3), (4, .int x4)]) dL_law_896 (Nat.le_of_ble_eq_true rfl) rfl ?_
  refine mW_aload_n (j := 3) dL_law_898 rfl rfl ?_
  refine mW_aload_n (j := 1) dL_law_899 rfl rfl ?_
  refine mW_iload (j := 5) dL_law_900 rfl ?_
  refine mW_iconst (v := 1) dL_law_902 (by decide) ?_
  refine mW_iadd dL_law_903 ?_
  refine mW_scr (i := x4 + 1) dL_law_904 s1 ?_
  refine mW_callV (As := [.int (mScr G ((x4 + 1).toNatClampNeg))]) (rest := []) (kc2 := kc) (ks2 := ks) dL_law_905 l_L_162 rfl h1 rfl (by decide) (k1) (Nat.le_of_ble_eq_true rfl) (by decide) (Nat.zero_add _) (Nat.zero_add _) mRix mRik
set_option maxHeartbeats 4000000 in
set_option maxRecDepth 100000 in
theorem gL_law_908 {G : mG} {nm : String} {kc ks : Nat} {w : mH} {Φ : mF} {a1 a2 a3 : Nat} {x4 x5 x_0 : Int32} {n_a3 : Nat} (h1 : hk w a2 = (11, 0)) (h2 : hk w a3 = (17, n_a3)) (s1 : vp_in 0 n_a3) (k1 : ((hfi w a2 0) = x5) → (¬ (x5 = 0)) → mW G (mL_law nm) 11 kc ks 1930 [(0, .ref (G.2.2.2 5)), (1, .ref a1), (2, .ref a2), (3, .ref a3), (4, .int x4)] [] w Φ) (k2 : ((hfi w a2 0) = x5) → (x5 = 0) → ((lg_cmp (hal w a3 0) x_0.toInt64) = 0) → mW G (mL_law nm) 11 kc ks 1930 [(0, .ref (G.2.2.2 5)), (1, .ref a1), (2, .ref a2), (3, .ref a3), (4, .int x4)] [] w Φ) (k3 : ((hfi w a2 0) = x5) → (x5 = 0) → (¬ ((lg_cmp (hal w a3 0) x_0.toInt64) = 0)) → Φ (.inl (some (.int 0))) w) (k4 : (¬ ((hfi w a2 0) = x5)) → Φ (.inl (some (.int 0))) w) : mW G (mL_law nm) 11 kc ks 908 [(0, .ref (G.2.2.2 5)), (1, .ref a1), (2, .ref a2), (3, .ref a3), (4, .int x4), (5, .int x5)] [.int x_0] w Φ := by
  refine mW_istore (lv2 := [(6, .int x_0), (0, .ref (G.2.2.2 5)), (1, .ref a1), (2, .ref a2), (3, .ref a3), (4, .int x4), (5, .int x5)]) dL_law_908 (Nat.le_of_ble_eq_true rfl) rfl ?_
  refine mW_aload_n (j := 3) dL_law_910 rfl rfl ?_
  refine mW_callVe (As := []) (rest := []) (kc2 := kc) (ks2 := ks) dL_law_911 l_L_120 rfl h1 rfl (by decide) (qX11_thrown (w := w) (a0 := a2) h1) (Nat.le_of_ble_eq_true rfl) (by decide) (Nat.zero_add _) (Nat.zero_add _) ?_
  refine mW_iload (j := 6) dL_law_914 rfl ?_
  refine mW_icmp_eq (tgt := 921) dL_law_916 (by decide) (fun c1 => ?_) (fun c1 => ?_)
  · refine mW_iload (j := 6) dL_law_921 rfl ?_
    refine mW_if_ne (tgt := 938) dL_law_923 (by decide) (fun c2 => ?_) (fun c2 => ?_)
    · refine mW_goto (tgt := 1930) dL_law_938 (by decide) ?_
      refine mW_loc [1, 2, 3, 4, 5] (lv2 := [(0, .ref (G.2.2.2 5)), (1, .ref a1), (2, .ref a2), (3, .ref a3), (4, .int x4)]) rfl ?_
      exact k1 c1 c2
    · refine mW_aload_n (j := 4) dL_law_926 rfl rfl ?_
      refine mW_iconst (v := 0) dL_law_927 (by decide) ?_
      refine mW_laldJ dL_law_928 h2 s1 (j := 0) (by decide) ?_
      refine mW_iload (j := 0) dL_law_929 rfl ?_
      refine mW_i2l dL_law_931 ?_
      refine mW_lcmp dL_law_932 ?_
      refine mW_if_eq (tgt := 938) dL_law_933 (by decide) (fun c3 => ?_) (fun c3 => ?_)
      · refine mW_goto (tgt := 1930) dL_law_938 (by decide) ?_
        refine mW_loc [1, 2, 3, 4, 5] (lv2 := [(0, .ref (G.2.2.2 5)), (1, .ref a1), (2, .ref a2), (3, .ref a3), (4, .int x4)]) rfl ?_
        exact k2 c1 c2 c3
      · refine mW_iconst (v := 0) dL_law_936 (by decide) ?_
        exact mW_zret (ty := .boolean) dL_law_937 rfl (by first | rfl | decide) (k3 c1 c2 c3)
  · refine mW_iconst (v := 0) dL_law_919 (by decide) ?_
    exact mW_zret (ty := .boolean) dL_law_920 rfl (by first | rfl | decide) (k4 c1)
theorem u1353 : (Cond.codeWith ⟨"LineFollowerBenchLaw", "push", "(LLineFollowerBench;I[J)I"⟩ method_15_code 4 (some .int) [(0, 9, 12, 13)] : Cond) ∈ mTs := mTs_in 1353 (by decide +kernel) (by decide +kernel)
theorem u1351 : (Cond.methodLink "LineFollowerBenchLaw" 163 ⟨"LineFollowerBenchLaw", "push", "(LLineFollowerBench;I[J)I"⟩ : Cond) ∈ mTs := mTs_in 1351 (by decide +kernel) (by decide +kernel)
theorem u1352 : (Cond.static ⟨"LineFollowerBenchLaw", "push", "(LLineFollowerBench;I[J)I"⟩ : Cond) ∈ mTs := mTs_in 1352 (by decide +kernel) (by decide +kernel)
theorem l_L_163 : mLinkSH "LineFollowerBenchLaw" 163 3 mL_push := ⟨⟨by decide, by decide, by decide +kernel⟩, u1353, u69, by decide, u1351, u1352⟩
set_option maxHeartbeats 4000000 in
set_option maxRecDepth 100000 in
theorem gL_law_941 {G : mG} {nm : String} {kc ks : Nat} {w : mH} {Φ : mF} {a1 a2 a3 : Nat} {x4 : Int32} (s1 : vp_in (x4 + 1) (G.2.2.2 6)) (k1 : mCH G mL_push 10 1 6 [.ref a1, .int (mScr G ((x4 + 1).toNatClampNeg)), .ref a3] w (mRi G (mL_law nm) 11 kc ks 952 [(0, .ref (G.2.2.2 5)), (1, .ref a1), (2, .ref a2), (3, .ref a3), (4, .int x4)] [] Φ)) : mW G (mL_law nm) 11 (kc + 1) (ks + 6) 941 [(0, .ref (G.2.2.2 5)), (1, .ref a1), (2, .ref a2), (3, .ref a3), (4, .int x4)] [] w Φ := by
  refine mW_aload_n (j := 1) dL_law_941 rfl rfl ?_
  refine mW_aload_n (j := 0) dL_law_942 rfl rfl ?_
  refine mW_iload (j := 4) dL_law_943 rfl ?_
  refine mW_iconst (v := 1) dL_law_945 (by decide) ?_
  refine mW_iadd dL_law_946 ?_
  refine mW_scr (i := x4 + 1) dL_law_947 s1 ?_
  refine mW_aload_n (j := 3) dL_law_948 rfl rfl ?_
  refine mW_callSH (As := [.ref a1, .int (mScr G ((x4 + 1).toNatClampNeg)), .ref a3]) (rest := []) (kc2 := kc) (ks2 := ks) dL_law_949 l_L_163 rfl (k1) (Nat.le_of_ble_eq_true rfl) (by decide) (Nat.add_comm _ _) (Nat.add_comm _ _) mRix mRik
theorem u1816 : (Cond.code ⟨"LineFollowerBenchModel", "push", "(I)I"⟩ prog_13_method_40_code 2 (some .int) : Cond) ∈ mTs := mTs_in 1816 (by decide +kernel) (by decide +kernel)
theorem co_X11_push : mCode mX11_push := ⟨u1816, u85, by decide⟩
theorem u1813 : (Cond.methodLink "LineFollowerBenchLaw" 165 ⟨"LineFollowerBenchModel", "push", "(I)I"⟩ : Cond) ∈ mTs := mTs_in 1813 (by decide +kernel) (by decide +kernel)
theorem u1814 : (Cond.instanceMethod ⟨"LineFollowerBenchModel", "push", "(I)I"⟩ : Cond) ∈ mTs := mTs_in 1814 (by decide +kernel) (by decide +kernel)
theorem u1815 : (Cond.selects "LineFollowerBenchModel" ⟨"LineFollowerBenchModel", "push", "(I)I"⟩ ⟨"LineFollowerBenchModel", "push", "(I)I"⟩ : Cond) ∈ mTs := mTs_in 1815 (by decide +kernel) (by decide +kernel)
theorem l_L_165 : mLinkV "LineFollowerBenchLaw" 165 1 mX11_push := ⟨⟨by decide, by decide, by decide +kernel⟩, co_X11_push, u1813, u1814, u1815⟩
set_option maxHeartbeats 4000000 in
set_option maxRecDepth 100000 in
theorem gL_law_952 {G : mG} {nm : String} {kc ks : Nat} {w : mH} {Φ : mF} {a1 a2 a3 : Nat} {x4 x_0 : Int32} (s1 : vp_in (x4 + 1) (G.2.2.2 6)) (h1 : hk w a2 = (11, 0)) (k1 : mC G mX11_push 2 0 0 [.ref a2, .int (mScr G ((x4 + 1).toNatClampNeg))] w (mRi G (mL_law nm) 11 kc ks 964 [(5, .int x_0), (0, .ref (G.2.2.2 5)), (1, .ref a1), (2, .ref a2), (3, .ref a3), (4, .int x4)] [] Φ)) : mW G (mL_law nm) 11 kc ks 952 [(0, .ref (G.2.2.2 5)), (1, .ref a1), (2, .ref a2), (3, .ref a3), (4, .int x4)] [.int x_0] w Φ := by
  refine mW_istore (lv2 := [(5, .int x_0), (0, .ref (G.2.2.2 5)), (1, .ref a1), (2, .ref a2), (3, .ref a3), (4, .int x4)]) dL_law_952 (Nat.le_of_ble_eq_true rfl) rfl ?_
  refine mW_aload_n (j := 3) dL_law_954 rfl rfl ?_
  refine mW_aload_n (j := 1) dL_law_955 rfl rfl ?_
  refine mW_iload (j := 5) dL_law_956 rfl ?_
  refine mW_iconst (v := 1) dL_law_958 (by decide) ?_
  refine mW_iadd dL_law_959 ?_
  refine mW_scr (i := x4 + 1) dL_law_960 s1 ?_
  refine mW_callV (As := [.int (mScr G ((x4 + 1).toNatClampNeg))]) (rest := []) (kc2 := kc) (ks2 := ks) dL_law_961 l_L_165 rfl h1 rfl (by decide) (k1) (Nat.le_of_ble_eq_true rfl) (by decide) (Nat.zero_add _) (Nat.zero_add _) mRix mRik
set_option maxHeartbeats 4000000 in
set_option maxRecDepth 100000 in
theorem gL_law_964 {G : mG} {nm : String} {kc ks : Nat} {w : mH} {Φ : mF} {a1 a2 a3 : Nat} {x4 x5 x_0 : Int32} {n_a3 : Nat} (h1 : hk w a2 = (11, 0)) (h2 : hk w a3 = (17, n_a3)) (s1 : vp_in 0 n_a3) (k1 : ((hfi w a2 0) = x5) → (¬ (x5 = 0)) → mW G (mL_law nm) 11 kc ks 1930 [(0, .ref (G.2.2.2 5)), (1, .ref a1), (2, .ref a2), (3, .ref a3), (4, .int x4)] [] w Φ) (k2 : ((hfi w a2 0) = x5) → (x5 = 0) → ((lg_cmp (hal w a3 0) x_0.toInt64) = 0) → mW G (mL_law nm) 11 kc ks 1930 [(0, .ref (G.2.2.2 5)), (1, .ref a1), (2, .ref a2), (3, .ref a3), (4, .int x4)] [] w Φ) (k3 : ((hfi w a2 0) = x5) → (x5 = 0) → (¬ ((lg_cmp (hal w a3 0) x_0.toInt64) = 0)) → Φ (.inl (some (.int 0))) w) (k4 : (¬ ((hfi w a2 0) = x5)) → Φ (.inl (some (.int 0))) w) : mW G (mL_law nm) 11 kc ks 964 [(0, .ref (G.2.2.2 5)), (1, .ref a1), (2, .ref a2), (3, .ref a3), (4, .int x4), (5, .int x5)] [.int x_0] w Φ := by
  refine mW_istore (lv2 := [(6, .int x_0), (0, .ref (G.2.2.2 5)), (1, .ref a1), (2, .ref a2), (3, .ref a3), (4, .int x4), (5, .int x5)]) dL_law_964 (Nat.le_of_ble_eq_true rfl) rfl ?_
  refine mW_aload_n (j := 3) dL_law_966 rfl rfl ?_
  refine mW_callVe (As := []) (rest := []) (kc2 := kc) (ks2 := ks) dL_law_967 l_L_120 rfl h1 rfl (by decide) (qX11_thrown (w := w) (a0 := a2) h1) (Nat.le_of_ble_eq_true rfl) (by decide) (Nat.zero_add _) (Nat.zero_add _) ?_
  refine mW_iload (j := 6) dL_law_970 rfl ?_
  refine mW_icmp_eq (tgt := 977) dL_law_972 (by decide) (fun c1 => ?_) (fun c1 => ?_)
  · refine mW_iload (j := 6) dL_law_977 rfl ?_
    refine mW_if_ne (tgt := 994) dL_law_979 (by decide) (fun c2 => ?_) (fun c2 => ?_)
    · refine mW_goto (tgt := 1930) dL_law_994 (by decide) ?_
      refine mW_loc [1, 2, 3, 4, 5] (lv2 := [(0, .ref (G.2.2.2 5)), (1, .ref a1), (2, .ref a2), (3, .ref a3), (4, .int x4)]) rfl ?_
      exact k1 c1 c2
    · refine mW_aload_n (j := 4) dL_law_982 rfl rfl ?_
      refine mW_iconst (v := 0) dL_law_983 (by decide) ?_
      refine mW_laldJ dL_law_984 h2 s1 (j := 0) (by decide) ?_
      refine mW_iload (j := 0) dL_law_985 rfl ?_
      refine mW_i2l dL_law_987 ?_
      refine mW_lcmp dL_law_988 ?_
      refine mW_if_eq (tgt := 994) dL_law_989 (by decide) (fun c3 => ?_) (fun c3 => ?_)
      · refine mW_goto (tgt := 1930) dL_law_994 (by decide) ?_
        refine mW_loc [1, 2, 3, 4, 5] (lv2 := [(0, .ref (G.2.2.2 5)), (1, .ref a1), (2, .ref a2), (3, .ref a3), (4, .int x4)]) rfl ?_
        exact k2 c1 c2 c3
      · refine mW_iconst (v := 0) dL_law_992 (by decide) ?_
        exact mW_zret (ty := .boolean) dL_law_993 rfl (by first | rfl | decide) (k3 c1 c2 c3)
  · refine mW_iconst (v := 0) dL_law_975 (by decide) ?_
    exact mW_zret (ty := .boolean) dL_law_976 rfl (by first | rfl | decide) (k4 c1)
theorem u491 : (Cond.code ⟨"LineFollowerBench", "run", "()I"⟩ prog_1_method_16_code 1 (some .int) : Cond) ∈ mTs := mTs_in 491 (by decide +kernel) (by decide +kernel)
theorem co_X10_run : mCode mX10_run := ⟨u491, u70, by decide⟩
theorem u488 : (Cond.methodLink "LineFollowerBenchLaw" 166 ⟨"LineFollowerBench", "run", "()I"⟩ : Cond) ∈ mTs := mTs_in 488 (by decide +kernel) (by decide +kernel)
theorem u489 : (Cond.instanceMethod ⟨"LineFollowerBench", "run", "()I"⟩ : Cond) ∈ mTs := mTs_in 489 (by decide +kernel) (by decide +kernel)
theorem u490 : (Cond.selects "LineFollowerBench" ⟨"LineFollowerBench", "run", "()I"⟩ ⟨"LineFollowerBench", "run", "()I"⟩ : Cond) ∈ mTs := mTs_in 490 (by decide +kernel) (by decide +kernel)
theorem l_L_166 : mLinkV "LineFollowerBenchLaw" 166 0 mX10_run := ⟨⟨by decide, by decide, by decide +kernel⟩, co_X10_run, u488, u489, u490⟩
set_option maxHeartbeats 4000000 in
set_option maxRecDepth 100000 in
theorem gL_law_997 {G : mG} {nm : String} {kc ks : Nat} {w : mH} {Φ : mF} {a1 a2 a3 : Nat} {x4 : Int32} (h1 : hk w a1 = (10, 0)) (k1 : mC G mX10_run 9 0 0 [.ref a1] w (mRi G (mL_law nm) 11 kc ks 1001 [(0, .ref (G.2.2.2 5)), (1, .ref a1), (2, .ref a2), (3, .ref a3), (4, .int x4)] [] Φ)) : mW G (mL_law nm) 11 kc ks 997 [(0, .ref (G.2.2.2 5)), (1, .ref a1), (2, .ref a2), (3, .ref a3), (4, .int x4)] [] w Φ := by
  refine mW_aload_n (j := 1) dL_law_997 rfl rfl ?_
  refine mW_callV (As := []) (rest := []) (kc2 := kc) (ks2 := ks) dL_law_998 l_L_166 rfl h1 rfl (by decide) (k1) (Nat.le_of_ble_eq_true rfl) (by decide) (Nat.zero_add _) (Nat.zero_add _) mRix mRik
theorem u1824 : (Cond.code ⟨"LineFollowerBenchModel", "run", "()I"⟩ prog_13_method_49_code 1 (some .int) : Cond) ∈ mTs := mTs_in 1824 (by decide +kernel) (by decide +kernel)
theorem co_X11_run : mCode mX11_run := ⟨u1824, u85, by decide⟩
theorem u1821 : (Cond.methodLink "LineFollowerBenchLaw" 169 ⟨"LineFollowerBenchModel", "run", "()I"⟩ : Cond) ∈ mTs := mTs_in 1821 (by decide +kernel) (by decide +kernel)
theorem u1822 : (Cond.instanceMethod ⟨"LineFollowerBenchModel", "run", "()I"⟩ : Cond) ∈ mTs := mTs_in 1822 (by decide +kernel) (by decide +kernel)
theorem u1823 : (Cond.selects "LineFollowerBenchModel" ⟨"LineFollowerBenchModel", "run", "()I"⟩ ⟨"LineFollowerBenchModel", "run", "()I"⟩ : Cond) ∈ mTs := mTs_in 1823 (by decide +kernel) (by decide +kernel)
theorem l_L_169 : mLinkV "LineFollowerBenchLaw" 169 0 mX11_run := ⟨⟨by decide, by decide, by decide +kernel⟩, co_X11_run, u1821, u1822, u1823⟩
set_option maxHeartbeats 4000000 in
set_option maxRecDepth 100000 in
theorem gL_law_1001 {G : mG} {nm : String} {kc ks : Nat} {w : mH} {Φ : mF} {a1 a2 a3 : Nat} {x4 x_0 : Int32} (h1 : hk w a2 = (11, 0)) (k1 : mC G mX11_run 5 0 0 [.ref a2] w (mRi G (mL_law nm) 11 kc ks 1005 [(0, .ref (G.2.2.2 5)), (1, .ref a1), (2, .ref a2), (3, .ref a3), (4, .int x4)] [.int x_0] Φ)) : mW G (mL_law nm) 11 kc ks 1001 [(0, .ref (G.2.2.2 5)), (1, .ref a1), (2, .ref a2), (3, .ref a3), (4, .int x4)] [.int x_0] w Φ := by
  refine mW_aload_n (j := 2) dL_law_1001 rfl rfl ?_
  refine mW_callV (As := []) (rest := [.int x_0]) (kc2 := kc) (ks2 := ks) dL_law_1002 l_L_169 rfl h1 rfl (by decide) (k1) (Nat.le_of_ble_eq_true rfl) (by decide) (Nat.zero_add _) (Nat.zero_add _) mRix mRik
set_option maxHeartbeats 4000000 in
set_option maxRecDepth 100000 in
theorem gL_law_1005 {G : mG} {nm : String} {kc ks : Nat} {w : mH} {Φ : mF} {a1 a2 a3 : Nat} {x4 x_0 x_1 : Int32}  (k1 : (x_1 = x_0) → mW G (mL_law nm) 11 kc ks 1930 [(0, .ref (G.2.2.2 5)), (1, .ref a1), (2, .ref a2), (3, .ref a3), (4, .int x4)] [] w Φ) (k2 : (¬ (x_1 = x_0)) → Φ (.inl (some (.int 0))) w) : mW G (mL_law nm) 11 kc ks 1005 [(0, .ref (G.2.2.2 5)), (1, .ref a1), (2, .ref a2), (3, .ref a3), (4, .int x4)] [.int x_0, .int x_1] w Φ := by
  refine mW_icmp_eq (tgt := 1930) dL_law_1005 (by decide) (fun c1 => ?_) (fun c1 => ?_)
  · exact k1 c1
  · refine mW_iconst (v := 0) dL_law_1008 (by decide) ?_
    exact mW_zret (ty := .boolean) dL_law_1009 rfl (by first | rfl | decide) (k2 c1)
theorem u1361 : (Cond.codeWith ⟨"LineFollowerBenchLaw", "trace", "(LLineFollowerBench;II[J)I"⟩ method_16_code 5 (some .int) [(0, 10, 13, 24), (0, 10, 17, 13), (0, 10, 21, 15)] : Cond) ∈ mTs := mTs_in 1361 (by decide +kernel) (by decide +kernel)
theorem u1359 : (Cond.methodLink "LineFollowerBenchLaw" 170 ⟨"LineFollowerBenchLaw", "trace", "(LLineFollowerBench;II[J)I"⟩ : Cond) ∈ mTs := mTs_in 1359 (by decide +kernel) (by decide +kernel)
theorem u1360 : (Cond.static ⟨"LineFollowerBenchLaw", "trace", "(LLineFollowerBench;II[J)I"⟩ : Cond) ∈ mTs := mTs_in 1360 (by decide +kernel) (by decide +kernel)
theorem l_L_170 : mLinkSH "LineFollowerBenchLaw" 170 4 mL_trace := ⟨⟨by decide, by decide, by decide +kernel⟩, u1361, u69, by decide, u1359, u1360⟩
set_option maxHeartbeats 4000000 in
set_option maxRecDepth 100000 in
theorem gL_law_1010 {G : mG} {nm : String} {kc ks : Nat} {w : mH} {Φ : mF} {a1 a2 a3 : Nat} {x4 : Int32} (s1 : vp_in (x4 + 1) (G.2.2.2 6)) (s2 : vp_in (x4 + 2) (G.2.2.2 6)) (k1 : mCH G mL_trace 10 1 6 [.ref a1, .int (mScr G ((x4 + 1).toNatClampNeg)), .int (mScr G ((x4 + 2).toNatClampNeg)), .ref a3] w (mRi G (mL_law nm) 11 kc ks 1027 [(0, .ref (G.2.2.2 5)), (1, .ref a1), (2, .ref a2), (3, .ref a3), (4, .int x4)] [] Φ)) : mW G (mL_law nm) 11 (kc + 1) (ks + 6) 1010 [(0, .ref (G.2.2.2 5)), (1, .ref a1), (2, .ref a2), (3, .ref a3), (4, .int x4)] [] w Φ := by
  refine mW_aload_n (j := 1) dL_law_1010 rfl rfl ?_
  refine mW_aload_n (j := 0) dL_law_1011 rfl rfl ?_
  refine mW_iload (j := 4) dL_law_1012 rfl ?_
  refine mW_iconst (v := 1) dL_law_1014 (by decide) ?_
  refine mW_iadd dL_law_1015 ?_
  refine mW_scr (i := x4 + 1) dL_law_1016 s1 ?_
  refine mW_aload_n (j := 0) dL_law_1017 rfl rfl ?_
  refine mW_iload (j := 4) dL_law_1018 rfl ?_
  refine mW_iconst (v := 2) dL_law_1020 (by decide) ?_
  refine mW_iadd dL_law_1021 ?_
  refine mW_scr (i := x4 + 2) dL_law_1022 s2 ?_
  refine mW_aload_n (j := 3) dL_law_1023 rfl rfl ?_
  refine mW_callSH (As := [.ref a1, .int (mScr G ((x4 + 1).toNatClampNeg)), .int (mScr G ((x4 + 2).toNatClampNeg)), .ref a3]) (rest := []) (kc2 := kc) (ks2 := ks) dL_law_1024 l_L_170 rfl (k1) (Nat.le_of_ble_eq_true rfl) (by decide) (Nat.add_comm _ _) (Nat.add_comm _ _) mRix mRik
theorem u1854 : (Cond.code ⟨"LineFollowerBenchModel", "trace", "(II)I"⟩ prog_13_method_50_code 3 (some .int) : Cond) ∈ mTs := mTs_in 1854 (by decide +kernel) (by decide +kernel)
theorem co_X11_trace : mCode mX11_trace := ⟨u1854, u85, by decide⟩
theorem u1851 : (Cond.methodLink "LineFollowerBenchLaw" 172 ⟨"LineFollowerBenchModel", "trace", "(II)I"⟩ : Cond) ∈ mTs := mTs_in 1851 (by decide +kernel) (by decide +kernel)
theorem u1852 : (Cond.instanceMethod ⟨"LineFollowerBenchModel", "trace", "(II)I"⟩ : Cond) ∈ mTs := mTs_in 1852 (by decide +kernel) (by decide +kernel)
theorem u1853 : (Cond.selects "LineFollowerBenchModel" ⟨"LineFollowerBenchModel", "trace", "(II)I"⟩ ⟨"LineFollowerBenchModel", "trace", "(II)I"⟩ : Cond) ∈ mTs := mTs_in 1853 (by decide +kernel) (by decide +kernel)
theorem l_L_172 : mLinkV "LineFollowerBenchLaw" 172 2 mX11_trace := ⟨⟨by decide, by decide, by decide +kernel⟩, co_X11_trace, u1851, u1852, u1853⟩
set_option maxHeartbeats 4000000 in
set_option maxRecDepth 100000 in
theorem gL_law_1027 {G : mG} {nm : String} {kc ks : Nat} {w : mH} {Φ : mF} {a1 a2 a3 : Nat} {x4 x_0 : Int32} (s1 : vp_in (x4 + 1) (G.2.2.2 6)) (s2 : vp_in (x4 + 2) (G.2.2.2 6)) (h1 : hk w a2 = (11, 0)) (k1 : mC G mX11_trace 3 0 0 [.ref a2, .int (mScr G ((x4 + 1).toNatClampNeg)), .int (mScr G ((x4 + 2).toNatClampNeg))] w (mRi G (mL_law nm) 11 kc ks 1045 [(5, .int x_0), (0, .ref (G.2.2.2 5)), (1, .ref a1), (2, .ref a2), (3, .ref a3), (4, .int x4)] [] Φ)) : mW G (mL_law nm) 11 kc ks 1027 [(0, .ref (G.2.2.2 5)), (1, .ref a1), (2, .ref a2), (3, .ref a3), (4, .int x4)] [.int x_0] w Φ := by
  refine mW_istore (lv2 := [(5, .int x_0), (0, .ref (G.2.2.2 5)), (1, .ref a1), (2, .ref a2), (3, .ref a3), (4, .int x4)]) dL_law_1027 (Nat.le_of_ble_eq_true rfl) rfl ?_
  refine mW_aload_n (j := 3) dL_law_1029 rfl rfl ?_
  refine mW_aload_n (j := 1) dL_law_1030 rfl rfl ?_
  refine mW_iload (j := 5) dL_law_1031 rfl ?_
  refine mW_iconst (v := 1) dL_law_1033 (by decide) ?_
  refine mW_iadd dL_law_1034 ?_
  refine mW_scr (i := x4 + 1) dL_law_1035 s1 ?_
  refine mW_aload_n (j := 1) dL_law_1036 rfl rfl ?_
  refine mW_iload (j := 5) dL_law_1037 rfl ?_
  refine mW_iconst (v := 2) dL_law_1039 (by decide) ?_
  refine mW_iadd dL_law_1040 ?_
  refine mW_scr (i := x4 + 2) dL_law_1041 s2 ?_
  refine mW_callV (As := [.int (mScr G ((x4 + 1).toNatClampNeg)), .int (mScr G ((x4 + 2).toNatClampNeg))]) (rest := []) (kc2 := kc) (ks2 := ks) dL_law_1042 l_L_172 rfl h1 rfl (by decide) (k1) (Nat.le_of_ble_eq_true rfl) (by decide) (Nat.zero_add _) (Nat.zero_add _) mRix mRik
set_option maxHeartbeats 4000000 in
set_option maxRecDepth 100000 in
theorem gL_law_1045 {G : mG} {nm : String} {kc ks : Nat} {w : mH} {Φ : mF} {a1 a2 a3 : Nat} {x4 x5 x_0 : Int32} {n_a3 : Nat} (h1 : hk w a2 = (11, 0)) (h2 : hk w a3 = (17, n_a3)) (s1 : vp_in 0 n_a3) (k1 : ((hfi w a2 0) = x5) → (¬ (x5 = 0)) → mW G (mL_law nm) 11 kc ks 1930 [(0, .ref (G.2.2.2 5)), (1, .ref a1), (2, .ref a2), (3, .ref a3), (4, .int x4)] [] w Φ) (k2 : ((hfi w a2 0) = x5) → (x5 = 0) → ((lg_cmp (hal w a3 0) x_0.toInt64) = 0) → mW G (mL_law nm) 11 kc ks 1930 [(0, .ref (G.2.2.2 5)), (1, .ref a1), (2, .ref a2), (3, .ref a3), (4, .int x4)] [] w Φ) (k3 : ((hfi w a2 0) = x5) → (x5 = 0) → (¬ ((lg_cmp (hal w a3 0) x_0.toInt64) = 0)) → Φ (.inl (some (.int 0))) w) (k4 : (¬ ((hfi w a2 0) = x5)) → Φ (.inl (some (.int 0))) w) : mW G (mL_law nm) 11 kc ks 1045 [(0, .ref (G.2.2.2 5)), (1, .ref a1), (2, .ref a2), (3, .ref a3), (4, .int x4), (5, .int x5)] [.int x_0] w Φ := by
  refine mW_istore (lv2 := [(6, .int x_0), (0, .ref (G.2.2.2 5)), (1, .ref a1), (2, .ref a2), (3, .ref a3), (4, .int x4), (5, .int x5)]) dL_law_1045 (Nat.le_of_ble_eq_true rfl) rfl ?_
  refine mW_aload_n (j := 3) dL_law_1047 rfl rfl ?_
  refine mW_callVe (As := []) (rest := []) (kc2 := kc) (ks2 := ks) dL_law_1048 l_L_120 rfl h1 rfl (by decide) (qX11_thrown (w := w) (a0 := a2) h1) (Nat.le_of_ble_eq_true rfl) (by decide) (Nat.zero_add _) (Nat.zero_add _) ?_
  refine mW_iload (j := 6) dL_law_1051 rfl ?_
  refine mW_icmp_eq (tgt := 1058) dL_law_1053 (by decide) (fun c1 => ?_) (fun c1 => ?_)
  · refine mW_iload (j := 6) dL_law_1058 rfl ?_
    refine mW_if_ne (tgt := 1075) dL_law_1060 (by decide) (fun c2 => ?_) (fun c2 => ?_)
    · refine mW_goto (tgt := 1930) dL_law_1075 (by decide) ?_
      refine mW_loc [1, 2, 3, 4, 5] (lv2 := [(0, .ref (G.2.2.2 5)), (1, .ref a1), (2, .ref a2), (3, .ref a3), (4, .int x4)]) rfl ?_
      exact k1 c1 c2
    · refine mW_aload_n (j := 4) dL_law_1063 rfl rfl ?_
      refine mW_iconst (v := 0) dL_law_1064 (by decide) ?_
      refine mW_laldJ dL_law_1065 h2 s1 (j := 0) (by decide) ?_
      refine mW_iload (j := 0) dL_law_1066 rfl ?_
      refine mW_i2l dL_law_1068 ?_
      refine mW_lcmp dL_law_1069 ?_
      refine mW_if_eq (tgt := 1075) dL_law_1070 (by decide) (fun c3 => ?_) (fun c3 => ?_)
      · refine mW_goto (tgt := 1930) dL_law_1075 (by decide) ?_
        refine mW_loc [1, 2, 3, 4, 5] (lv2 := [(0, .ref (G.2.2.2 5)), (1, .ref a1), (2, .ref a2), (3, .ref a3), (4, .int x4)]) rfl ?_
        exact k2 c1 c2 c3
      · refine mW_iconst (v := 0) dL_law_1073 (by decide) ?_
        exact mW_zret (ty := .boolean) dL_law_1074 rfl (by first | rfl | decide) (k3 c1 c2 c3)
  · refine mW_iconst (v := 0) dL_law_1056 (by decide) ?_
    exact mW_zret (ty := .boolean) dL_law_1057 rfl (by first | rfl | decide) (k4 c1)
theorem u1375 : (Cond.codeWith ⟨"LineFollowerBenchLaw", "measure", "(LLineFollowerBench;I[J)I"⟩ method_17_code 4 (some .int) [(0, 9, 12, 24), (0, 9, 15, 15)] : Cond) ∈ mTs := mTs_in 1375 (by decide +kernel) (by decide +kernel)
theorem u1373 : (Cond.methodLink "LineFollowerBenchLaw" 173 ⟨"LineFollowerBenchLaw", "measure", "(LLineFollowerBench;I[J)I"⟩ : Cond) ∈ mTs := mTs_in 1373 (by decide +kernel) (by decide +kernel)
theorem u1374 : (Cond.static ⟨"LineFollowerBenchLaw", "measure", "(LLineFollowerBench;I[J)I"⟩ : Cond) ∈ mTs := mTs_in 1374 (by decide +kernel) (by decide +kernel)
theorem l_L_173 : mLinkSH "LineFollowerBenchLaw" 173 3 mL_measure := ⟨⟨by decide, by decide, by decide +kernel⟩, u1375, u69, by decide, u1373, u1374⟩
set_option maxHeartbeats 4000000 in
set_option maxRecDepth 100000 in
theorem gL_law_1078 {G : mG} {nm : String} {kc ks : Nat} {w : mH} {Φ : mF} {a1 a2 a3 : Nat} {x4 : Int32} (s1 : vp_in (x4 + 1) (G.2.2.2 6)) (k1 : mCH G mL_measure 10 1 6 [.ref a1, .int (mScr G ((x4 + 1).toNatClampNeg)), .ref a3] w (mRi G (mL_law nm) 11 kc ks 1089 [(0, .ref (G.2.2.2 5)), (1, .ref a1), (2, .ref a2), (3, .ref a3), (4, .int x4)] [] Φ)) : mW G (mL_law nm) 11 (kc + 1) (ks + 6) 1078 [(0, .ref (G.2.2.2 5)), (1, .ref a1), (2, .ref a2), (3, .ref a3), (4, .int x4)] [] w Φ := by
  refine mW_aload_n (j := 1) dL_law_1078 rfl rfl ?_
  refine mW_aload_n (j := 0) dL_law_1079 rfl rfl ?_
  refine mW_iload (j := 4) dL_law_1080 rfl ?_
  refine mW_iconst (v := 1) dL_law_1082 (by decide) ?_
  refine mW_iadd dL_law_1083 ?_
  refine mW_scr (i := x4 + 1) dL_law_1084 s1 ?_
  refine mW_aload_n (j := 3) dL_law_1085 rfl rfl ?_
  refine mW_callSH (As := [.ref a1, .int (mScr G ((x4 + 1).toNatClampNeg)), .ref a3]) (rest := []) (kc2 := kc) (ks2 := ks) dL_law_1086 l_L_173 rfl (k1) (Nat.le_of_ble_eq_true rfl) (by decide) (Nat.add_comm _ _) (Nat.add_comm _ _) mRix mRik
theorem u1859 : (Cond.code ⟨"LineFollowerBenchModel", "measure", "(I)I"⟩ prog_13_method_51_code 2 (some .int) : Cond) ∈ mTs := mTs_in 1859 (by decide +kernel) (by decide +kernel)
theorem co_X11_measure : mCode mX11_measure := ⟨u1859, u85, by decide⟩
theorem u1856 : (Cond.methodLink "LineFollowerBenchLaw" 175 ⟨"LineFollowerBenchModel", "measure", "(I)I"⟩ : Cond) ∈ mTs := mTs_in 1856 (by decide +kernel) (by decide +kernel)
theorem u1857 : (Cond.instanceMethod ⟨"LineFollowerBenchModel", "measure", "(I)I"⟩ : Cond) ∈ mTs := mTs_in 1857 (by decide +kernel) (by decide +kernel)
theorem u1858 : (Cond.selects "LineFollowerBenchModel" ⟨"LineFollowerBenchModel", "measure", "(I)I"⟩ ⟨"LineFollowerBenchModel", "measure", "(I)I"⟩ : Cond) ∈ mTs := mTs_in 1858 (by decide +kernel) (by decide +kernel)
theorem l_L_175 : mLinkV "LineFollowerBenchLaw" 175 1 mX11_measure := ⟨⟨by decide, by decide, by decide +kernel⟩, co_X11_measure, u1856, u1857, u1858⟩
set_option maxHeartbeats 4000000 in
set_option maxRecDepth 100000 in
theorem gL_law_1089 {G : mG} {nm : String} {kc ks : Nat} {w : mH} {Φ : mF} {a1 a2 a3 : Nat} {x4 x_0 : Int32} (s1 : vp_in (x4 + 1) (G.2.2.2 6)) (h1 : hk w a2 = (11, 0)) (k1 : mC G mX11_measure 4 0 0 [.ref a2, .int (mScr G ((x4 + 1).toNatClampNeg))] w (mRi G (mL_law nm) 11 kc ks 1101 [(5, .int x_0), (0, .ref (G.2.2.2 5)), (1, .ref a1), (2, .ref a2), (3, .ref a3), (4, .int x4)] [] Φ)) : mW G (mL_law nm) 11 kc ks 1089 [(0, .ref (G.2.2.2 5)), (1, .ref a1), (2, .ref a2), (3, .ref a3), (4, .int x4)] [.int x_0] w Φ := by
  refine mW_istore (lv2 := [(5, .int x_0), (0, .ref (G.2.2.2 5)), (1, .ref a1), (2, .ref a2), (3, .ref a3), (4, .int x4)]) dL_law_1089 (Nat.le_of_ble_eq_true rfl) rfl ?_
  refine mW_aload_n (j := 3) dL_law_1091 rfl rfl ?_
  refine mW_aload_n (j := 1) dL_law_1092 rfl rfl ?_
  refine mW_iload (j := 5) dL_law_1093 rfl ?_
  refine mW_iconst (v := 1) dL_law_1095 (by decide) ?_
  refine mW_iadd dL_law_1096 ?_
  refine mW_scr (i := x4 + 1) dL_law_1097 s1 ?_
  refine mW_callV (As := [.int (mScr G ((x4 + 1).toNatClampNeg))]) (rest := []) (kc2 := kc) (ks2 := ks) dL_law_1098 l_L_175 rfl h1 rfl (by decide) (k1) (Nat.le_of_ble_eq_true rfl) (by decide) (Nat.zero_add _) (Nat.zero_add _) mRix mRik
set_option maxHeartbeats 4000000 in
set_option maxRecDepth 100000 in
theorem gL_law_1101 {G : mG} {nm : String} {kc ks : Nat} {w : mH} {Φ : mF} {a1 a2 a3 : Nat} {x4 x5 x_0 : Int32} {n_a3 : Nat} (h1 : hk w a2 = (11, 0)) (h2 : hk w a3 = (17, n_a3)) (s1 : vp_in 0 n_a3) (k1 : ((hfi w a2 0) = x5) → (¬ (x5 = 0)) → mW G (mL_law nm) 11 kc ks 1930 [(0, .ref (G.2.2.2 5)), (1, .ref a1), (2, .ref a2), (3, .ref a3), (4, .int x4)] [] w Φ) (k2 : ((hfi w a2 0) = x5) → (x5 = 0) → ((lg_cmp (hal w a3 0) x_0.toInt64) = 0) → mW G (mL_law nm) 11 kc ks 1930 [(0, .ref (G.2.2.2 5)), (1, .ref a1), (2, .ref a2), (3, .ref a3), (4, .int x4)] [] w Φ) (k3 : ((hfi w a2 0) = x5) → (x5 = 0) → (¬ ((lg_cmp (hal w a3 0) x_0.toInt64) = 0)) → Φ (.inl (some (.int 0))) w) (k4 : (¬ ((hfi w a2 0) = x5)) → Φ (.inl (some (.int 0))) w) : mW G (mL_law nm) 11 kc ks 1101 [(0, .ref (G.2.2.2 5)), (1, .ref a1), (2, .ref a2), (3, .ref a3), (4, .int x4), (5, .int x5)] [.int x_0] w Φ := by
  refine mW_istore (lv2 := [(6, .int x_0), (0, .ref (G.2.2.2 5)), (1, .ref a1), (2, .ref a2), (3, .ref a3), (4, .int x4), (5, .int x5)]) dL_law_1101 (Nat.le_of_ble_eq_true rfl) rfl ?_
  refine mW_aload_n (j := 3) dL_law_1103 rfl rfl ?_
  refine mW_callVe (As := []) (rest := []) (kc2 := kc) (ks2 := ks) dL_law_1104 l_L_120 rfl h1 rfl (by decide) (qX11_thrown (w := w) (a0 := a2) h1) (Nat.le_of_ble_eq_true rfl) (by decide) (Nat.zero_add _) (Nat.zero_add _) ?_
  refine mW_iload (j := 6) dL_law_1107 rfl ?_
  refine mW_icmp_eq (tgt := 1114) dL_law_1109 (by decide) (fun c1 => ?_) (fun c1 => ?_)
  · refine mW_iload (j := 6) dL_law_1114 rfl ?_
    refine mW_if_ne (tgt := 1131) dL_law_1116 (by decide) (fun c2 => ?_) (fun c2 => ?_)
    · refine mW_goto (tgt := 1930) dL_law_1131 (by decide) ?_
      refine mW_loc [1, 2, 3, 4, 5] (lv2 := [(0, .ref (G.2.2.2 5)), (1, .ref a1), (2, .ref a2), (3, .ref a3), (4, .int x4)]) rfl ?_
      exact k1 c1 c2
    · refine mW_aload_n (j := 4) dL_law_1119 rfl rfl ?_
      refine mW_iconst (v := 0) dL_law_1120 (by decide) ?_
      refine mW_laldJ dL_law_1121 h2 s1 (j := 0) (by decide) ?_
      refine mW_iload (j := 0) dL_law_1122 rfl ?_
      refine mW_i2l dL_law_1124 ?_
      refine mW_lcmp dL_law_1125 ?_
      refine mW_if_eq (tgt := 1131) dL_law_1126 (by decide) (fun c3 => ?_) (fun c3 => ?_)
      · refine mW_goto (tgt := 1930) dL_law_1131 (by decide) ?_
        refine mW_loc [1, 2, 3, 4, 5] (lv2 := [(0, .ref (G.2.2.2 5)), (1, .ref a1), (2, .ref a2), (3, .ref a3), (4, .int x4)]) rfl ?_
        exact k2 c1 c2 c3
      · refine mW_iconst (v := 0) dL_law_1129 (by decide) ?_
        exact mW_zret (ty := .boolean) dL_law_1130 rfl (by first | rfl | decide) (k3 c1 c2 c3)
  · refine mW_iconst (v := 0) dL_law_1112 (by decide) ?_
    exact mW_zret (ty := .boolean) dL_law_1113 rfl (by first | rfl | decide) (k4 c1)
theorem u1396 : (Cond.codeWith ⟨"LineFollowerBenchLaw", "cost", "(LLineFollowerBench;[J)I"⟩ method_18_code 3 (some .int) [(0, 7, 10, 24)] : Cond) ∈ mTs := mTs_in 1396 (by decide +kernel) (by decide +kernel)
theorem u1394 : (Cond.methodLink "LineFollowerBenchLaw" 176 ⟨"LineFollowerBenchLaw", "cost", "(LLineFollowerBench;[J)I"⟩ : Cond) ∈ mTs := mTs_in 1394 (by decide +kernel) (by decide +kernel)
theorem u1395 : (Cond.static ⟨"LineFollowerBenchLaw", "cost", "(LLineFollowerBench;[J)I"⟩ : Cond) ∈ mTs := mTs_in 1395 (by decide +kernel) (by decide +kernel)
theorem l_L_176 : mLinkSH "LineFollowerBenchLaw" 176 2 mL_cost := ⟨⟨by decide, by decide, by decide +kernel⟩, u1396, u69, by decide, u1394, u1395⟩
set_option maxHeartbeats 4000000 in
set_option maxRecDepth 100000 in
theorem gL_law_1134 {G : mG} {nm : String} {kc ks : Nat} {w : mH} {Φ : mF} {a1 a2 a3 : Nat} {x4 : Int32}  (k1 : mCH G mL_cost 10 1 6 [.ref a1, .ref a3] w (mRi G (mL_law nm) 11 kc ks 1139 [(0, .ref (G.2.2.2 5)), (1, .ref a1), (2, .ref a2), (3, .ref a3), (4, .int x4)] [] Φ)) : mW G (mL_law nm) 11 (kc + 1) (ks + 6) 1134 [(0, .ref (G.2.2.2 5)), (1, .ref a1), (2, .ref a2), (3, .ref a3), (4, .int x4)] [] w Φ := by
  refine mW_aload_n (j := 1) dL_law_1134 rfl rfl ?_
  refine mW_aload_n (j := 3) dL_law_1135 rfl rfl ?_
  refine mW_callSH (As := [.ref a1, .ref a3]) (rest := []) (kc2 := kc) (ks2 := ks) dL_law_1136 l_L_176 rfl (k1) (Nat.le_of_ble_eq_true rfl) (by decide) (Nat.add_comm _ _) (Nat.add_comm _ _) mRix mRik
theorem u1876 : (Cond.code ⟨"LineFollowerBenchModel", "cost", "()J"⟩ prog_13_method_52_code 1 (some .long) : Cond) ∈ mTs := mTs_in 1876 (by decide +kernel) (by decide +kernel)
theorem co_X11_cost : mCode mX11_cost := ⟨u1876, u85, by decide⟩
theorem u1873 : (Cond.methodLink "LineFollowerBenchLaw" 178 ⟨"LineFollowerBenchModel", "cost", "()J"⟩ : Cond) ∈ mTs := mTs_in 1873 (by decide +kernel) (by decide +kernel)
theorem u1874 : (Cond.instanceMethod ⟨"LineFollowerBenchModel", "cost", "()J"⟩ : Cond) ∈ mTs := mTs_in 1874 (by decide +kernel) (by decide +kernel)
theorem u1875 : (Cond.selects "LineFollowerBenchModel" ⟨"LineFollowerBenchModel", "cost", "()J"⟩ ⟨"LineFollowerBenchModel", "cost", "()J"⟩ : Cond) ∈ mTs := mTs_in 1875 (by decide +kernel) (by decide +kernel)
theorem l_L_178 : mLinkV "LineFollowerBenchLaw" 178 0 mX11_cost := ⟨⟨by decide, by decide, by decide +kernel⟩, co_X11_cost, u1873, u1874, u1875⟩
set_option maxHeartbeats 4000000 in
set_option maxRecDepth 100000 in
theorem gL_law_1139 {G : mG} {nm : String} {kc ks : Nat} {w : mH} {Φ : mF} {a1 a2 a3 : Nat} {x4 x_0 : Int32} (h1 : hk w a2 = (11, 0)) (k1 : mC G mX11_cost 5 0 0 [.ref a2] w (mRl G (mL_law nm) 11 kc ks 1145 [(5, .int x_0), (0, .ref (G.2.2.2 5)), (1, .ref a1), (2, .ref a2), (3, .ref a3), (4, .int x4)] [] Φ)) : mW G (mL_law nm) 11 kc ks 1139 [(0, .ref (G.2.2.2 5)), (1, .ref a1), (2, .ref a2), (3, .ref a3), (4, .int x4)] [.int x_0] w Φ := by
  refine mW_istore (lv2 := [(5, .int x_0), (0, .ref (G.2.2.2 5)), (1, .ref a1), (2, .ref a2), (3, .ref a3), (4, .int x4)]) dL_law_1139 (Nat.le_of_ble_eq_true rfl) rfl ?_
  refine mW_aload_n (j := 3) dL_law_1141 rfl rfl ?_
  refine mW_callV (As := []) (rest := []) (kc2 := kc) (ks2 := ks) dL_law_1142 l_L_178 rfl h1 rfl (by decide) (k1) (Nat.le_of_ble_eq_true rfl) (by decide) (Nat.zero_add _) (Nat.zero_add _) mRlx mRlk
set_option maxHeartbeats 4000000 in
set_option maxRecDepth 100000 in
theorem gL_law_1145 {G : mG} {nm : String} {kc ks : Nat} {w : mH} {Φ : mF} {a1 a2 a3 : Nat} {x4 x5 : Int32} {y_0 : Int64} {n_a3 : Nat} (h1 : hk w a2 = (11, 0)) (h2 : hk w a3 = (17, n_a3)) (s1 : vp_in 0 n_a3) (k1 : ((hfi w a2 0) = x5) → (¬ (x5 = 0)) → mW G (mL_law nm) 11 kc ks 1930 [(0, .ref (G.2.2.2 5)), (1, .ref a1), (2, .ref a2), (3, .ref a3), (4, .int x4)] [] w Φ) (k2 : ((hfi w a2 0) = x5) → (x5 = 0) → ((lg_cmp (hal w a3 0) y_0) = 0) → mW G (mL_law nm) 11 kc ks 1930 [(0, .ref (G.2.2.2 5)), (1, .ref a1), (2, .ref a2), (3, .ref a3), (4, .int x4)] [] w Φ) (k3 : ((hfi w a2 0) = x5) → (x5 = 0) → (¬ ((lg_cmp (hal w a3 0) y_0) = 0)) → Φ (.inl (some (.int 0))) w) (k4 : (¬ ((hfi w a2 0) = x5)) → Φ (.inl (some (.int 0))) w) : mW G (mL_law nm) 11 kc ks 1145 [(0, .ref (G.2.2.2 5)), (1, .ref a1), (2, .ref a2), (3, .ref a3), (4, .int x4), (5, .int x5)] [.long y_0] w Φ := by
  refine mW_lstore (lv2 := [(6, .long y_0), (0, .ref (G.2.2.2 5)), (1, .ref a1), (2, .ref a2), (3, .ref a3), (4, .int x4), (5, .int x5)]) dL_law_1145 (Nat.le_of_ble_eq_true rfl) rfl ?_
  refine mW_aload_n (j := 3) dL_law_1147 rfl rfl ?_
  refine mW_callVe (As := []) (rest := []) (kc2 := kc) (ks2 := ks) dL_law_1148 l_L_120 rfl h1 rfl (by decide) (qX11_thrown (w := w) (a0 := a2) h1) (Nat.le_of_ble_eq_true rfl) (by decide) (Nat.zero_add _) (Nat.zero_add _) ?_
  refine mW_iload (j := 6) dL_law_1151 rfl ?_
  refine mW_icmp_eq (tgt := 1158) dL_law_1153 (by decide) (fun c1 => ?_) (fun c1 => ?_)
  · refine mW_iload (j := 6) dL_law_1158 rfl ?_
    refine mW_if_ne (tgt := 1174) dL_law_1160 (by decide) (fun c2 => ?_) (fun c2 => ?_)
    · refine mW_goto (tgt := 1930) dL_law_1174 (by decide) ?_
      refine mW_loc [1, 2, 3, 4, 5] (lv2 := [(0, .ref (G.2.2.2 5)), (1, .ref a1), (2, .ref a2), (3, .ref a3), (4, .int x4)]) rfl ?_
      exact k1 c1 c2
    · refine mW_aload_n (j := 4) dL_law_1163 rfl rfl ?_
      refine mW_iconst (v := 0) dL_law_1164 (by decide) ?_
      refine mW_laldJ dL_law_1165 h2 s1 (j := 0) (by decide) ?_
      refine mW_lload (j := 0) dL_law_1166 rfl ?_
      refine mW_lcmp dL_law_1168 ?_
      refine mW_if_eq (tgt := 1174) dL_law_1169 (by decide) (fun c3 => ?_) (fun c3 => ?_)
      · refine mW_goto (tgt := 1930) dL_law_1174 (by decide) ?_
        refine mW_loc [1, 2, 3, 4, 5] (lv2 := [(0, .ref (G.2.2.2 5)), (1, .ref a1), (2, .ref a2), (3, .ref a3), (4, .int x4)]) rfl ?_
        exact k2 c1 c2 c3
      · refine mW_iconst (v := 0) dL_law_1172 (by decide) ?_
        exact mW_zret (ty := .boolean) dL_law_1173 rfl (by first | rfl | decide) (k3 c1 c2 c3)
  · refine mW_iconst (v := 0) dL_law_1156 (by decide) ?_
    exact mW_zret (ty := .boolean) dL_law_1157 rfl (by first | rfl | decide) (k4 c1)
theorem u1404 : (Cond.codeWith ⟨"LineFollowerBenchLaw", "reason", "(LLineFollowerBench;I[J)I"⟩ method_19_code 4 (some .int) [(0, 9, 12, 24), (0, 9, 15, 13)] : Cond) ∈ mTs := mTs_in 1404 (by decide +kernel) (by decide +kernel)
theorem u1402 : (Cond.methodLink "LineFollowerBenchLaw" 179 ⟨"LineFollowerBenchLaw", "reason", "(LLineFollowerBench;I[J)I"⟩ : Cond) ∈ mTs := mTs_in 1402 (by decide +kernel) (by decide +kernel)
theorem u1403 : (Cond.static ⟨"LineFollowerBenchLaw", "reason", "(LLineFollowerBench;I[J)I"⟩ : Cond) ∈ mTs := mTs_in 1403 (by decide +kernel) (by decide +kernel)
theorem l_L_179 : mLinkSH "LineFollowerBenchLaw" 179 3 mL_reason := ⟨⟨by decide, by decide, by decide +kernel⟩, u1404, u69, by decide, u1402, u1403⟩
set_option maxHeartbeats 4000000 in
set_option maxRecDepth 100000 in
theorem gL_law_1177 {G : mG} {nm : String} {kc ks : Nat} {w : mH} {Φ : mF} {a1 a2 a3 : Nat} {x4 : Int32} (s1 : vp_in (x4 + 1) (G.2.2.2 6)) (k1 : mCH G mL_reason 10 1 6 [.ref a1, .int (mScr G ((x4 + 1).toNatClampNeg)), .ref a3] w (mRi G (mL_law nm) 11 kc ks 1188 [(0, .ref (G.2.2.2 5)), (1, .ref a1), (2, .ref a2), (3, .ref a3), (4, .int x4)] [] Φ)) : mW G (mL_law nm) 11 (kc + 1) (ks + 6) 1177 [(0, .ref (G.2.2.2 5)), (1, .ref a1), (2, .ref a2), (3, .ref a3), (4, .int x4)] [] w Φ := by
  refine mW_aload_n (j := 1) dL_law_1177 rfl rfl ?_
  refine mW_aload_n (j := 0) dL_law_1178 rfl rfl ?_
  refine mW_iload (j := 4) dL_law_1179 rfl ?_
  refine mW_iconst (v := 1) dL_law_1181 (by decide) ?_
  refine mW_iadd dL_law_1182 ?_
  refine mW_scr (i := x4 + 1) dL_law_1183 s1 ?_
  refine mW_aload_n (j := 3) dL_law_1184 rfl rfl ?_
  refine mW_callSH (As := [.ref a1, .int (mScr G ((x4 + 1).toNatClampNeg)), .ref a3]) (rest := []) (kc2 := kc) (ks2 := ks) dL_law_1185 l_L_179 rfl (k1) (Nat.le_of_ble_eq_true rfl) (by decide) (Nat.add_comm _ _) (Nat.add_comm _ _) mRix mRik
theorem u1884 : (Cond.code ⟨"LineFollowerBenchModel", "reason", "(I)I"⟩ prog_13_method_53_code 10 (some .int) : Cond) ∈ mTs := mTs_in 1884 (by decide +kernel) (by decide +kernel)
theorem co_X11_reason : mCode mX11_reason := ⟨u1884, u85, by decide⟩
theorem u1881 : (Cond.methodLink "LineFollowerBenchLaw" 181 ⟨"LineFollowerBenchModel", "reason", "(I)I"⟩ : Cond) ∈ mTs := mTs_in 1881 (by decide +kernel) (by decide +kernel)
theorem u1882 : (Cond.instanceMethod ⟨"LineFollowerBenchModel", "reason", "(I)I"⟩ : Cond) ∈ mTs := mTs_in 1882 (by decide +kernel) (by decide +kernel)
theorem u1883 : (Cond.selects "LineFollowerBenchModel" ⟨"LineFollowerBenchModel", "reason", "(I)I"⟩ ⟨"LineFollowerBenchModel", "reason", "(I)I"⟩ : Cond) ∈ mTs := mTs_in 1883 (by decide +kernel) (by decide +kernel)
theorem l_L_181 : mLinkV "LineFollowerBenchLaw" 181 1 mX11_reason := ⟨⟨by decide, by decide, by decide +kernel⟩, co_X11_reason, u1881, u1882, u1883⟩
set_option maxHeartbeats 4000000 in
set_option maxRecDepth 100000 in
theorem gL_law_1188 {G : mG} {nm : String} {kc ks : Nat} {w : mH} {Φ : mF} {a1 a2 a3 : Nat} {x4 x_0 : Int32} (s1 : vp_in (x4 + 1) (G.2.2.2 6)) (h1 : hk w a2 = (11, 0)) (k1 : mC G mX11_reason 3 0 0 [.ref a2, .int (mScr G ((x4 + 1).toNatClampNeg))] w (mRi G (mL_law nm) 11 kc ks 1200 [(5, .int x_0), (0, .ref (G.2.2.2 5)), (1, .ref a1), (2, .ref a2), (3, .ref a3), (4, .int x4)] [] Φ)) : mW G (mL_law nm) 11 kc ks 1188 [(0, .ref (G.2.2.2 5)), (1, .ref a1), (2, .ref a2), (3, .ref a3), (4, .int x4)] [.int x_0] w Φ := by
  refine mW_istore (lv2 := [(5, .int x_0), (0, .ref (G.2.2.2 5)), (1, .ref a1), (2, .ref a2), (3, .ref a3), (4, .int x4)]) dL_law_1188 (Nat.le_of_ble_eq_true rfl) rfl ?_
  refine mW_aload_n (j := 3) dL_law_1190 rfl rfl ?_
  refine mW_aload_n (j := 1) dL_law_1191 rfl rfl ?_
  refine mW_iload (j := 5) dL_law_1192 rfl ?_
  refine mW_iconst (v := 1) dL_law_1194 (by decide) ?_
  refine mW_iadd dL_law_1195 ?_
  refine mW_scr (i := x4 + 1) dL_law_1196 s1 ?_
  refine mW_callV (As := [.int (mScr G ((x4 + 1).toNatClampNeg))]) (rest := []) (kc2 := kc) (ks2 := ks) dL_law_1197 l_L_181 rfl h1 rfl (by decide) (k1) (Nat.le_of_ble_eq_true rfl) (by decide) (Nat.zero_add _) (Nat.zero_add _) mRix mRik
set_option maxHeartbeats 4000000 in
set_option maxRecDepth 100000 in
theorem gL_law_1200 {G : mG} {nm : String} {kc ks : Nat} {w : mH} {Φ : mF} {a1 a2 a3 : Nat} {x4 x5 x_0 : Int32} {n_a3 : Nat} (h1 : hk w a2 = (11, 0)) (h2 : hk w a3 = (17, n_a3)) (s1 : vp_in 0 n_a3) (k1 : ((hfi w a2 0) = x5) → (¬ (x5 = 0)) → mW G (mL_law nm) 11 kc ks 1930 [(0, .ref (G.2.2.2 5)), (1, .ref a1), (2, .ref a2), (3, .ref a3), (4, .int x4)] [] w Φ) (k2 : ((hfi w a2 0) = x5) → (x5 = 0) → ((lg_cmp (hal w a3 0) x_0.toInt64) = 0) → mW G (mL_law nm) 11 kc ks 1930 [(0, .ref (G.2.2.2 5)), (1, .ref a1), (2, .ref a2), (3, .ref a3), (4, .int x4)] [] w Φ) (k3 : ((hfi w a2 0) = x5) → (x5 = 0) → (¬ ((lg_cmp (hal w a3 0) x_0.toInt64) = 0)) → Φ (.inl (some (.int 0))) w) (k4 : (¬ ((hfi w a2 0) = x5)) → Φ (.inl (some (.int 0))) w) : mW G (mL_law nm) 11 kc ks 1200 [(0, .ref (G.2.2.2 5)), (1, .ref a1), (2, .ref a2), (3, .ref a3), (4, .int x4), (5, .int x5)] [.int x_0] w Φ := by
  refine mW_istore (lv2 := [(6, .int x_0), (0, .ref (G.2.2.2 5)), (1, .ref a1), (2, .ref a2), (3, .ref a3), (4, .int x4), (5, .int x5)]) dL_law_1200 (Nat.le_of_ble_eq_true rfl) rfl ?_
  refine mW_aload_n (j := 3) dL_law_1202 rfl rfl ?_
  refine mW_callVe (As := []) (rest := []) (kc2 := kc) (ks2 := ks) dL_law_1203 l_L_120 rfl h1 rfl (by decide) (qX11_thrown (w := w) (a0 := a2) h1) (Nat.le_of_ble_eq_true rfl) (by decide) (Nat.zero_add _) (Nat.zero_add _) ?_
  refine mW_iload (j := 6) dL_law_1206 rfl ?_
  refine mW_icmp_eq (tgt := 1213) dL_law_1208 (by decide) (fun c1 => ?_) (fun c1 => ?_)
  · refine mW_iload (j := 6) dL_law_1213 rfl ?_
    refine mW_if_ne (tgt := 1230) dL_law_1215 (by decide) (fun c2 => ?_) (fun c2 => ?_)
    · refine mW_goto (tgt := 1930) dL_law_1230 (by decide) ?_
      refine mW_loc [1, 2, 3, 4, 5] (lv2 := [(0, .ref (G.2.2.2 5)), (1, .ref a1), (2, .ref a2), (3, .ref a3), (4, .int x4)]) rfl ?_
      exact k1 c1 c2
    · refine mW_aload_n (j := 4) dL_law_1218 rfl rfl ?_
      refine mW_iconst (v := 0) dL_law_1219 (by decide) ?_
      refine mW_laldJ dL_law_1220 h2 s1 (j := 0) (by decide) ?_
      refine mW_iload (j := 0) dL_law_1221 rfl ?_
      refine mW_i2l dL_law_1223 ?_
      refine mW_lcmp dL_law_1224 ?_
      refine mW_if_eq (tgt := 1230) dL_law_1225 (by decide) (fun c3 => ?_) (fun c3 => ?_)
      · refine mW_goto (tgt := 1930) dL_law_1230 (by decide) ?_
        refine mW_loc [1, 2, 3, 4, 5] (lv2 := [(0, .ref (G.2.2.2 5)), (1, .ref a1), (2, .ref a2), (3, .ref a3), (4, .int x4)]) rfl ?_
        exact k2 c1 c2 c3
      · refine mW_iconst (v := 0) dL_law_1228 (by decide) ?_
        exact mW_zret (ty := .boolean) dL_law_1229 rfl (by first | rfl | decide) (k3 c1 c2 c3)
  · refine mW_iconst (v := 0) dL_law_1211 (by decide) ?_
    exact mW_zret (ty := .boolean) dL_law_1212 rfl (by first | rfl | decide) (k4 c1)
theorem u1413 : (Cond.codeWith ⟨"LineFollowerBenchLaw", "meanSquareBits", "(LLineFollowerBench;[J)I"⟩ method_20_code 3 (some .int) [(0, 7, 10, 24)] : Cond) ∈ mTs := mTs_in 1413 (by decide +kernel) (by decide +kernel)
theorem u1411 : (Cond.methodLink "LineFollowerBenchLaw" 182 ⟨"LineFollowerBenchLaw", "meanSquareBits", "(LLineFollowerBench;[J)I"⟩ : Cond) ∈ mTs := mTs_in 1411 (by decide +kernel) (by decide +kernel)
theorem u1412 : (Cond.static ⟨"LineFollowerBenchLaw", "meanSquareBits", "(LLineFollowerBench;[J)I"⟩ : Cond) ∈ mTs := mTs_in 1412 (by decide +kernel) (by decide +kernel)
theorem l_L_182 : mLinkSH "LineFollowerBenchLaw" 182 2 mL_meanSquareBits := ⟨⟨by decide, by decide, by decide +kernel⟩, u1413, u69, by decide, u1411, u1412⟩
set_option maxHeartbeats 4000000 in
set_option maxRecDepth 100000 in
theorem gL_law_1233 {G : mG} {nm : String} {kc ks : Nat} {w : mH} {Φ : mF} {a1 a2 a3 : Nat} {x4 : Int32}  (k1 : mCH G mL_meanSquareBits 10 1 6 [.ref a1, .ref a3] w (mRi G (mL_law nm) 11 kc ks 1238 [(0, .ref (G.2.2.2 5)), (1, .ref a1), (2, .ref a2), (3, .ref a3), (4, .int x4)] [] Φ)) : mW G (mL_law nm) 11 (kc + 1) (ks + 6) 1233 [(0, .ref (G.2.2.2 5)), (1, .ref a1), (2, .ref a2), (3, .ref a3), (4, .int x4)] [] w Φ := by
  refine mW_aload_n (j := 1) dL_law_1233 rfl rfl ?_
  refine mW_aload_n (j := 3) dL_law_1234 rfl rfl ?_
  refine mW_callSH (As := [.ref a1, .ref a3]) (rest := []) (kc2 := kc) (ks2 := ks) dL_law_1235 l_L_182 rfl (k1) (Nat.le_of_ble_eq_true rfl) (by decide) (Nat.add_comm _ _) (Nat.add_comm _ _) mRix mRik
theorem u1888 : (Cond.code ⟨"LineFollowerBenchModel", "meanSquareBits", "()J"⟩ prog_13_method_54_code 6 (some .long) : Cond) ∈ mTs := mTs_in 1888 (by decide +kernel) (by decide +kernel)
theorem co_X11_meanSquareBits : mCode mX11_meanSquareBits := ⟨u1888, u85, by decide⟩
theorem u1885 : (Cond.methodLink "LineFollowerBenchLaw" 184 ⟨"LineFollowerBenchModel", "meanSquareBits", "()J"⟩ : Cond) ∈ mTs := mTs_in 1885 (by decide +kernel) (by decide +kernel)
theorem u1886 : (Cond.instanceMethod ⟨"LineFollowerBenchModel", "meanSquareBits", "()J"⟩ : Cond) ∈ mTs := mTs_in 1886 (by decide +kernel) (by decide +kernel)
theorem u1887 : (Cond.selects "LineFollowerBenchModel" ⟨"LineFollowerBenchModel", "meanSquareBits", "()J"⟩ ⟨"LineFollowerBenchModel", "meanSquareBits", "()J"⟩ : Cond) ∈ mTs := mTs_in 1887 (by decide +kernel) (by decide +kernel)
theorem l_L_184 : mLinkV "LineFollowerBenchLaw" 184 0 mX11_meanSquareBits := ⟨⟨by decide, by decide, by decide +kernel⟩, co_X11_meanSquareBits, u1885, u1886, u1887⟩
set_option maxHeartbeats 4000000 in
set_option maxRecDepth 100000 in
theorem gL_law_1238 {G : mG} {nm : String} {kc ks : Nat} {w : mH} {Φ : mF} {a1 a2 a3 : Nat} {x4 x_0 : Int32} (h1 : hk w a2 = (11, 0)) (k1 : mC G mX11_meanSquareBits 3 0 0 [.ref a2] w (mRl G (mL_law nm) 11 kc ks 1244 [(5, .int x_0), (0, .ref (G.2.2.2 5)), (1, .ref a1), (2, .ref a2), (3, .ref a3), (4, .int x4)] [] Φ)) : mW G (mL_law nm) 11 kc ks 1238 [(0, .ref (G.2.2.2 5)), (1, .ref a1), (2, .ref a2), (3, .ref a3), (4, .int x4)] [.int x_0] w Φ := by
  refine mW_istore (lv2 := [(5, .int x_0), (0, .ref (G.2.2.2 5)), (1, .ref a1), (2, .ref a2), (3, .ref a3), (4, .int x4)]) dL_law_1238 (Nat.le_of_ble_eq_true rfl) rfl ?_
  refine mW_aload_n (j := 3) dL_law_1240 rfl rfl ?_
  refine mW_callV (As := []) (rest := []) (kc2 := kc) (ks2 := ks) dL_law_1241 l_L_184 rfl h1 rfl (by decide) (k1) (Nat.le_of_ble_eq_true rfl) (by decide) (Nat.zero_add _) (Nat.zero_add _) mRlx mRlk
set_option maxHeartbeats 4000000 in
set_option maxRecDepth 100000 in
theorem gL_law_1244 {G : mG} {nm : String} {kc ks : Nat} {w : mH} {Φ : mF} {a1 a2 a3 : Nat} {x4 x5 : Int32} {y_0 : Int64} {n_a3 : Nat} (h1 : hk w a2 = (11, 0)) (h2 : hk w a3 = (17, n_a3)) (s1 : vp_in 0 n_a3) (k1 : ((hfi w a2 0) = x5) → (¬ (x5 = 0)) → mW G (mL_law nm) 11 kc ks 1930 [(0, .ref (G.2.2.2 5)), (1, .ref a1), (2, .ref a2), (3, .ref a3), (4, .int x4)] [] w Φ) (k2 : ((hfi w a2 0) = x5) → (x5 = 0) → ((lg_cmp (hal w a3 0) y_0) = 0) → mW G (mL_law nm) 11 kc ks 1930 [(0, .ref (G.2.2.2 5)), (1, .ref a1), (2, .ref a2), (3, .ref a3), (4, .int x4)] [] w Φ) (k3 : ((hfi w a2 0) = x5) → (x5 = 0) → (¬ ((lg_cmp (hal w a3 0) y_0) = 0)) → Φ (.inl (some (.int 0))) w) (k4 : (¬ ((hfi w a2 0) = x5)) → Φ (.inl (some (.int 0))) w) : mW G (mL_law nm) 11 kc ks 1244 [(0, .ref (G.2.2.2 5)), (1, .ref a1), (2, .ref a2), (3, .ref a3), (4, .int x4), (5, .int x5)] [.long y_0] w Φ := by
  refine mW_lstore (lv2 := [(6, .long y_0), (0, .ref (G.2.2.2 5)), (1, .ref a1), (2, .ref a2), (3, .ref a3), (4, .int x4), (5, .int x5)]) dL_law_1244 (Nat.le_of_ble_eq_true rfl) rfl ?_
  refine mW_aload_n (j := 3) dL_law_1246 rfl rfl ?_
  refine mW_callVe (As := []) (rest := []) (kc2 := kc) (ks2 := ks) dL_law_1247 l_L_120 rfl h1 rfl (by decide) (qX11_thrown (w := w) (a0 := a2) h1) (Nat.le_of_ble_eq_true rfl) (by decide) (Nat.zero_add _) (Nat.zero_add _) ?_
  refine mW_iload (j := 6) dL_law_1250 rfl ?_
  refine mW_icmp_eq (tgt := 1257) dL_law_1252 (by decide) (fun c1 => ?_) (fun c1 => ?_)
  · refine mW_iload (j := 6) dL_law_1257 rfl ?_
    refine mW_if_ne (tgt := 1273) dL_law_1259 (by decide) (fun c2 => ?_) (fun c2 => ?_)
    · refine mW_goto (tgt := 1930) dL_law_1273 (by decide) ?_
      refine mW_loc [1, 2, 3, 4, 5] (lv2 := [(0, .ref (G.2.2.2 5)), (1, .ref a1), (2, .ref a2), (3, .ref a3), (4, .int x4)]) rfl ?_
      exact k1 c1 c2
    · refine mW_aload_n (j := 4) dL_law_1262 rfl rfl ?_
      refine mW_iconst (v := 0) dL_law_1263 (by decide) ?_
      refine mW_laldJ dL_law_1264 h2 s1 (j := 0) (by decide) ?_
      refine mW_lload (j := 0) dL_law_1265 rfl ?_
      refine mW_lcmp dL_law_1267 ?_
      refine mW_if_eq (tgt := 1273) dL_law_1268 (by decide) (fun c3 => ?_) (fun c3 => ?_)
      · refine mW_goto (tgt := 1930) dL_law_1273 (by decide) ?_
        refine mW_loc [1, 2, 3, 4, 5] (lv2 := [(0, .ref (G.2.2.2 5)), (1, .ref a1), (2, .ref a2), (3, .ref a3), (4, .int x4)]) rfl ?_
        exact k2 c1 c2 c3
      · refine mW_iconst (v := 0) dL_law_1271 (by decide) ?_
        exact mW_zret (ty := .boolean) dL_law_1272 rfl (by first | rfl | decide) (k3 c1 c2 c3)
  · refine mW_iconst (v := 0) dL_law_1255 (by decide) ?_
    exact mW_zret (ty := .boolean) dL_law_1256 rfl (by first | rfl | decide) (k4 c1)
theorem u1430 : (Cond.codeWith ⟨"LineFollowerBenchLaw", "saturatedBits", "(LLineFollowerBench;[J)I"⟩ method_21_code 3 (some .int) [(0, 8, 11, 24)] : Cond) ∈ mTs := mTs_in 1430 (by decide +kernel) (by decide +kernel)
theorem u1428 : (Cond.methodLink "LineFollowerBenchLaw" 185 ⟨"LineFollowerBenchLaw", "saturatedBits", "(LLineFollowerBench;[J)I"⟩ : Cond) ∈ mTs := mTs_in 1428 (by decide +kernel) (by decide +kernel)
theorem u1429 : (Cond.static ⟨"LineFollowerBenchLaw", "saturatedBits", "(LLineFollowerBench;[J)I"⟩ : Cond) ∈ mTs := mTs_in 1429 (by decide +kernel) (by decide +kernel)
theorem l_L_185 : mLinkSH "LineFollowerBenchLaw" 185 2 mL_saturatedBits := ⟨⟨by decide, by decide, by decide +kernel⟩, u1430, u69, by decide, u1428, u1429⟩
set_option maxHeartbeats 4000000 in
set_option maxRecDepth 100000 in
theorem gL_law_1276 {G : mG} {nm : String} {kc ks : Nat} {w : mH} {Φ : mF} {a1 a2 a3 : Nat} {x4 : Int32}  (k1 : mCH G mL_saturatedBits 10 1 6 [.ref a1, .ref a3] w (mRi G (mL_law nm) 11 kc ks 1281 [(0, .ref (G.2.2.2 5)), (1, .ref a1), (2, .ref a2), (3, .ref a3), (4, .int x4)] [] Φ)) : mW G (mL_law nm) 11 (kc + 1) (ks + 6) 1276 [(0, .ref (G.2.2.2 5)), (1, .ref a1), (2, .ref a2), (3, .ref a3), (4, .int x4)] [] w Φ := by
  refine mW_aload_n (j := 1) dL_law_1276 rfl rfl ?_
  refine mW_aload_n (j := 3) dL_law_1277 rfl rfl ?_
  refine mW_callSH (As := [.ref a1, .ref a3]) (rest := []) (kc2 := kc) (ks2 := ks) dL_law_1278 l_L_185 rfl (k1) (Nat.le_of_ble_eq_true rfl) (by decide) (Nat.add_comm _ _) (Nat.add_comm _ _) mRix mRik
theorem u1902 : (Cond.code ⟨"LineFollowerBenchModel", "saturatedBits", "()I"⟩ prog_13_method_55_code 3 (some .int) : Cond) ∈ mTs := mTs_in 1902 (by decide +kernel) (by decide +kernel)
theorem co_X11_saturatedBits : mCode mX11_saturatedBits := ⟨u1902, u85, by decide⟩
theorem u1899 : (Cond.methodLink "LineFollowerBenchLaw" 187 ⟨"LineFollowerBenchModel", "saturatedBits", "()I"⟩ : Cond) ∈ mTs := mTs_in 1899 (by decide +kernel) (by decide +kernel)
theorem u1900 : (Cond.instanceMethod ⟨"LineFollowerBenchModel", "saturatedBits", "()I"⟩ : Cond) ∈ mTs := mTs_in 1900 (by decide +kernel) (by decide +kernel)
theorem u1901 : (Cond.selects "LineFollowerBenchModel" ⟨"LineFollowerBenchModel", "saturatedBits", "()I"⟩ ⟨"LineFollowerBenchModel", "saturatedBits", "()I"⟩ : Cond) ∈ mTs := mTs_in 1901 (by decide +kernel) (by decide +kernel)
theorem l_L_187 : mLinkV "LineFollowerBenchLaw" 187 0 mX11_saturatedBits := ⟨⟨by decide, by decide, by decide +kernel⟩, co_X11_saturatedBits, u1899, u1900, u1901⟩
set_option maxHeartbeats 4000000 in
set_option maxRecDepth 100000 in
theorem gL_law_1281 {G : mG} {nm : String} {kc ks : Nat} {w : mH} {Φ : mF} {a1 a2 a3 : Nat} {x4 x_0 : Int32} (h1 : hk w a2 = (11, 0)) (k1 : mC G mX11_saturatedBits 3 0 0 [.ref a2] w (mRi G (mL_law nm) 11 kc ks 1287 [(5, .int x_0), (0, .ref (G.2.2.2 5)), (1, .ref a1), (2, .ref a2), (3, .ref a3), (4, .int x4)] [] Φ)) : mW G (mL_law nm) 11 kc ks 1281 [(0, .ref (G.2.2.2 5)), (1, .ref a1), (2, .ref a2), (3, .ref a3), (4, .int x4)] [.int x_0] w Φ := by
  refine mW_istore (lv2 := [(5, .int x_0), (0, .ref (G.2.2.2 5)), (1, .ref a1), (2, .ref a2), (3, .ref a3), (4, .int x4)]) dL_law_1281 (Nat.le_of_ble_eq_true rfl) rfl ?_
  refine mW_aload_n (j := 3) dL_law_1283 rfl rfl ?_
  refine mW_callV (As := []) (rest := []) (kc2 := kc) (ks2 := ks) dL_law_1284 l_L_187 rfl h1 rfl (by decide) (k1) (Nat.le_of_ble_eq_true rfl) (by decide) (Nat.zero_add _) (Nat.zero_add _) mRix mRik
set_option maxHeartbeats 4000000 in
set_option maxRecDepth 100000 in
theorem gL_law_1287 {G : mG} {nm : String} {kc ks : Nat} {w : mH} {Φ : mF} {a1 a2 a3 : Nat} {x4 x5 x_0 : Int32} {n_a3 : Nat} (h1 : hk w a2 = (11, 0)) (h2 : hk w a3 = (17, n_a3)) (s1 : vp_in 0 n_a3) (k1 : ((hfi w a2 0) = x5) → (¬ (x5 = 0)) → mW G (mL_law nm) 11 kc ks 1930 [(0, .ref (G.2.2.2 5)), (1, .ref a1), (2, .ref a2), (3, .ref a3), (4, .int x4)] [] w Φ) (k2 : ((hfi w a2 0) = x5) → (x5 = 0) → ((lg_cmp (hal w a3 0) x_0.toInt64) = 0) → mW G (mL_law nm) 11 kc ks 1930 [(0, .ref (G.2.2.2 5)), (1, .ref a1), (2, .ref a2), (3, .ref a3), (4, .int x4)] [] w Φ) (k3 : ((hfi w a2 0) = x5) → (x5 = 0) → (¬ ((lg_cmp (hal w a3 0) x_0.toInt64) = 0)) → Φ (.inl (some (.int 0))) w) (k4 : (¬ ((hfi w a2 0) = x5)) → Φ (.inl (some (.int 0))) w) : mW G (mL_law nm) 11 kc ks 1287 [(0, .ref (G.2.2.2 5)), (1, .ref a1), (2, .ref a2), (3, .ref a3), (4, .int x4), (5, .int x5)] [.int x_0] w Φ := by
  refine mW_istore (lv2 := [(6, .int x_0), (0, .ref (G.2.2.2 5)), (1, .ref a1), (2, .ref a2), (3, .ref a3), (4, .int x4), (5, .int x5)]) dL_law_1287 (Nat.le_of_ble_eq_true rfl) rfl ?_
  refine mW_aload_n (j := 3) dL_law_1289 rfl rfl ?_
  refine mW_callVe (As := []) (rest := []) (kc2 := kc) (ks2 := ks) dL_law_1290 l_L_120 rfl h1 rfl (by decide) (qX11_thrown (w := w) (a0 := a2) h1) (Nat.le_of_ble_eq_true rfl) (by decide) (Nat.zero_add _) (Nat.zero_add _) ?_
  refine mW_iload (j := 6) dL_law_1293 rfl ?_
  refine mW_icmp_eq (tgt := 1300) dL_law_1295 (by decide) (fun c1 => ?_) (fun c1 => ?_)
  · refine mW_iload (j := 6) dL_law_1300 rfl ?_
    refine mW_if_ne (tgt := 1317) dL_law_1302 (by decide) (fun c2 => ?_) (fun c2 => ?_)
    · refine mW_goto (tgt := 1930) dL_law_1317 (by decide) ?_
      refine mW_loc [1, 2, 3, 4, 5] (lv2 := [(0, .ref (G.2.2.2 5)), (1, .ref a1), (2, .ref a2), (3, .ref a3), (4, .int x4)]) rfl ?_
      exact k1 c1 c2
    · refine mW_aload_n (j := 4) dL_law_1305 rfl rfl ?_
      refine mW_iconst (v := 0) dL_law_1306 (by decide) ?_
      refine mW_laldJ dL_law_1307 h2 s1 (j := 0) (by decide) ?_
      refine mW_iload (j := 0) dL_law_1308 rfl ?_
      refine mW_i2l dL_law_1310 ?_
      refine mW_lcmp dL_law_1311 ?_
      refine mW_if_eq (tgt := 1317) dL_law_1312 (by decide) (fun c3 => ?_) (fun c3 => ?_)
      · refine mW_goto (tgt := 1930) dL_law_1317 (by decide) ?_
        refine mW_loc [1, 2, 3, 4, 5] (lv2 := [(0, .ref (G.2.2.2 5)), (1, .ref a1), (2, .ref a2), (3, .ref a3), (4, .int x4)]) rfl ?_
        exact k2 c1 c2 c3
      · refine mW_iconst (v := 0) dL_law_1315 (by decide) ?_
        exact mW_zret (ty := .boolean) dL_law_1316 rfl (by first | rfl | decide) (k3 c1 c2 c3)
  · refine mW_iconst (v := 0) dL_law_1298 (by decide) ?_
    exact mW_zret (ty := .boolean) dL_law_1299 rfl (by first | rfl | decide) (k4 c1)
theorem u1445 : (Cond.codeWith ⟨"LineFollowerBenchLaw", "hold", "(LLineFollowerBench;[J)I"⟩ method_22_code 3 (some .int) [(0, 8, 11, 24)] : Cond) ∈ mTs := mTs_in 1445 (by decide +kernel) (by decide +kernel)
theorem u1443 : (Cond.methodLink "LineFollowerBenchLaw" 188 ⟨"LineFollowerBenchLaw", "hold", "(LLineFollowerBench;[J)I"⟩ : Cond) ∈ mTs := mTs_in 1443 (by decide +kernel) (by decide +kernel)
theorem u1444 : (Cond.static ⟨"LineFollowerBenchLaw", "hold", "(LLineFollowerBench;[J)I"⟩ : Cond) ∈ mTs := mTs_in 1444 (by decide +kernel) (by decide +kernel)
theorem l_L_188 : mLinkSH "LineFollowerBenchLaw" 188 2 mL_hold := ⟨⟨by decide, by decide, by decide +kernel⟩, u1445, u69, by decide, u1443, u1444⟩
set_option maxHeartbeats 4000000 in
set_option maxRecDepth 100000 in
theorem gL_law_1320 {G : mG} {nm : String} {kc ks : Nat} {w : mH} {Φ : mF} {a1 a2 a3 : Nat} {x4 : Int32}  (k1 : mCH G mL_hold 10 1 6 [.ref a1, .ref a3] w (mRi G (mL_law nm) 11 kc ks 1325 [(0, .ref (G.2.2.2 5)), (1, .ref a1), (2, .ref a2), (3, .ref a3), (4, .int x4)] [] Φ)) : mW G (mL_law nm) 11 (kc + 1) (ks + 6) 1320 [(0, .ref (G.2.2.2 5)), (1, .ref a1), (2, .ref a2), (3, .ref a3), (4, .int x4)] [] w Φ := by
  refine mW_aload_n (j := 1) dL_law_1320 rfl rfl ?_
  refine mW_aload_n (j := 3) dL_law_1321 rfl rfl ?_
  refine mW_callSH (As := [.ref a1, .ref a3]) (rest := []) (kc2 := kc) (ks2 := ks) dL_law_1322 l_L_188 rfl (k1) (Nat.le_of_ble_eq_true rfl) (by decide) (Nat.add_comm _ _) (Nat.add_comm _ _) mRix mRik
theorem u1916 : (Cond.code ⟨"LineFollowerBenchModel", "hold", "()I"⟩ prog_13_method_56_code 2 (some .int) : Cond) ∈ mTs := mTs_in 1916 (by decide +kernel) (by decide +kernel)
theorem co_X11_hold : mCode mX11_hold := ⟨u1916, u85, by decide⟩
theorem u1913 : (Cond.methodLink "LineFollowerBenchLaw" 190 ⟨"LineFollowerBenchModel", "hold", "()I"⟩ : Cond) ∈ mTs := mTs_in 1913 (by decide +kernel) (by decide +kernel)
theorem u1914 : (Cond.instanceMethod ⟨"LineFollowerBenchModel", "hold", "()I"⟩ : Cond) ∈ mTs := mTs_in 1914 (by decide +kernel) (by decide +kernel)
theorem u1915 : (Cond.selects "LineFollowerBenchModel" ⟨"LineFollowerBenchModel", "hold", "()I"⟩ ⟨"LineFollowerBenchModel", "hold", "()I"⟩ : Cond) ∈ mTs := mTs_in 1915 (by decide +kernel) (by decide +kernel)
theorem l_L_190 : mLinkV "LineFollowerBenchLaw" 190 0 mX11_hold := ⟨⟨by decide, by decide, by decide +kernel⟩, co_X11_hold, u1913, u1914, u1915⟩
set_option maxHeartbeats 4000000 in
set_option maxRecDepth 100000 in
theorem gL_law_1325 {G : mG} {nm : String} {kc ks : Nat} {w : mH} {Φ : mF} {a1 a2 a3 : Nat} {x4 x_0 : Int32} (h1 : hk w a2 = (11, 0)) (k1 : mC G mX11_hold 1 0 0 [.ref a2] w (mRi G (mL_law nm) 11 kc ks 1331 [(5, .int x_0), (0, .ref (G.2.2.2 5)), (1, .ref a1), (2, .ref a2), (3, .ref a3), (4, .int x4)] [] Φ)) : mW G (mL_law nm) 11 kc ks 1325 [(0, .ref (G.2.2.2 5)), (1, .ref a1), (2, .ref a2), (3, .ref a3), (4, .int x4)] [.int x_0] w Φ := by
  refine mW_istore (lv2 := [(5, .int x_0), (0, .ref (G.2.2.2 5)), (1, .ref a1), (2, .ref a2), (3, .ref a3), (4, .int x4)]) dL_law_1325 (Nat.le_of_ble_eq_true rfl) rfl ?_
  refine mW_aload_n (j := 3) dL_law_1327 rfl rfl ?_
  refine mW_callV (As := []) (rest := []) (kc2 := kc) (ks2 := ks) dL_law_1328 l_L_190 rfl h1 rfl (by decide) (k1) (Nat.le_of_ble_eq_true rfl) (by decide) (Nat.zero_add _) (Nat.zero_add _) mRix mRik
set_option maxHeartbeats 4000000 in
set_option maxRecDepth 100000 in
theorem gL_law_1331 {G : mG} {nm : String} {kc ks : Nat} {w : mH} {Φ : mF} {a1 a2 a3 : Nat} {x4 x5 x_0 : Int32} {n_a3 : Nat} (h1 : hk w a2 = (11, 0)) (h2 : hk w a3 = (17, n_a3)) (s1 : vp_in 0 n_a3) (k1 : ((hfi w a2 0) = x5) → (¬ (x5 = 0)) → mW G (mL_law nm) 11 kc ks 1930 [(0, .ref (G.2.2.2 5)), (1, .ref a1), (2, .ref a2), (3, .ref a3), (4, .int x4)] [] w Φ) (k2 : ((hfi w a2 0) = x5) → (x5 = 0) → ((lg_cmp (hal w a3 0) x_0.toInt64) = 0) → mW G (mL_law nm) 11 kc ks 1930 [(0, .ref (G.2.2.2 5)), (1, .ref a1), (2, .ref a2), (3, .ref a3), (4, .int x4)] [] w Φ) (k3 : ((hfi w a2 0) = x5) → (x5 = 0) → (¬ ((lg_cmp (hal w a3 0) x_0.toInt64) = 0)) → Φ (.inl (some (.int 0))) w) (k4 : (¬ ((hfi w a2 0) = x5)) → Φ (.inl (some (.int 0))) w) : mW G (mL_law nm) 11 kc ks 1331 [(0, .ref (G.2.2.2 5)), (1, .ref a1), (2, .ref a2), (3, .ref a3), (4, .int x4), (5, .int x5)] [.int x_0] w Φ := by
  refine mW_istore (lv2 := [(6, .int x_0), (0, .ref (G.2.2.2 5)), (1, .ref a1), (2, .ref a2), (3, .ref a3), (4, .int x4), (5, .int x5)]) dL_law_1331 (Nat.le_of_ble_eq_true rfl) rfl ?_
  refine mW_aload_n (j := 3) dL_law_1333 rfl rfl ?_
  refine mW_callVe (As := []) (rest := []) (kc2 := kc) (ks2 := ks) dL_law_1334 l_L_120 rfl h1 rfl (by decide) (qX11_thrown (w := w) (a0 := a2) h1) (Nat.le_of_ble_eq_true rfl) (by decide) (Nat.zero_add _) (Nat.zero_add _) ?_
  refine mW_iload (j := 6) dL_law_1337 rfl ?_
  refine mW_icmp_eq (tgt := 1344) dL_law_1339 (by decide) (fun c1 => ?_) (fun c1 => ?_)
  · refine mW_iload (j := 6) dL_law_1344 rfl ?_
    refine mW_if_ne (tgt := 1361) dL_law_1346 (by decide) (fun c2 => ?_) (fun c2 => ?_)
    · refine mW_goto (tgt := 1930) dL_law_1361 (by decide) ?_
      refine mW_loc [1, 2, 3, 4, 5] (lv2 := [(0, .ref (G.2.2.2 5)), (1, .ref a1), (2, .ref a2), (3, .ref a3), (4, .int x4)]) rfl ?_
      exact k1 c1 c2
    · refine mW_aload_n (j := 4) dL_law_1349 rfl rfl ?_
      refine mW_iconst (v := 0) dL_law_1350 (by decide) ?_
      refine mW_laldJ dL_law_1351 h2 s1 (j := 0) (by decide) ?_
      refine mW_iload (j := 0) dL_law_1352 rfl ?_
      refine mW_i2l dL_law_1354 ?_
      refine mW_lcmp dL_law_1355 ?_
      refine mW_if_eq (tgt := 1361) dL_law_1356 (by decide) (fun c3 => ?_) (fun c3 => ?_)
      · refine mW_goto (tgt := 1930) dL_law_1361 (by decide) ?_
        refine mW_loc [1, 2, 3, 4, 5] (lv2 := [(0, .ref (G.2.2.2 5)), (1, .ref a1), (2, .ref a2), (3, .ref a3), (4, .int x4)]) rfl ?_
        exact k2 c1 c2 c3
      · refine mW_iconst (v := 0) dL_law_1359 (by decide) ?_
        exact mW_zret (ty := .boolean) dL_law_1360 rfl (by first | rfl | decide) (k3 c1 c2 c3)
  · refine mW_iconst (v := 0) dL_law_1342 (by decide) ?_
    exact mW_zret (ty := .boolean) dL_law_1343 rfl (by first | rfl | decide) (k4 c1)
theorem u1457 : (Cond.codeWith ⟨"LineFollowerBenchLaw", "compare", "(LLineFollowerBench;I[J)I"⟩ method_23_code 4 (some .int) [(0, 9, 12, 24), (0, 9, 15, 15)] : Cond) ∈ mTs := mTs_in 1457 (by decide +kernel) (by decide +kernel)
theorem u1455 : (Cond.methodLink "LineFollowerBenchLaw" 191 ⟨"LineFollowerBenchLaw", "compare", "(LLineFollowerBench;I[J)I"⟩ : Cond) ∈ mTs := mTs_in 1455 (by decide +kernel) (by decide +kernel)
theorem u1456 : (Cond.static ⟨"LineFollowerBenchLaw", "compare", "(LLineFollowerBench;I[J)I"⟩ : Cond) ∈ mTs := mTs_in 1456 (by decide +kernel) (by decide +kernel)
theorem l_L_191 : mLinkSH "LineFollowerBenchLaw" 191 3 mL_compare := ⟨⟨by decide, by decide, by decide +kernel⟩, u1457, u69, by decide, u1455, u1456⟩
set_option maxHeartbeats 4000000 in
set_option maxRecDepth 100000 in
theorem gL_law_1364 {G : mG} {nm : String} {kc ks : Nat} {w : mH} {Φ : mF} {a1 a2 a3 : Nat} {x4 : Int32} (s1 : vp_in (x4 + 1) (G.2.2.2 6)) (k1 : mCH G mL_compare 10 1 6 [.ref a1, .int (mScr G ((x4 + 1).toNatClampNeg)), .ref a3] w (mRi G (mL_law nm) 11 kc ks 1375 [(0, .ref (G.2.2.2 5)), (1, .ref a1), (2, .ref a2), (3, .ref a3), (4, .int x4)] [] Φ)) : mW G (mL_law nm) 11 (kc + 1) (ks + 6) 1364 [(0, .ref (G.2.2.2 5)), (1, .ref a1), (2, .ref a2), (3, .ref a3), (4, .int x4)] [] w Φ := by
  refine mW_aload_n (j := 1) dL_law_1364 rfl rfl ?_
  refine mW_aload_n (j := 0) dL_law_1365 rfl rfl ?_
  refine mW_iload (j := 4) dL_law_1366 rfl ?_
  refine mW_iconst (v := 1) dL_law_1368 (by decide) ?_
  refine mW_iadd dL_law_1369 ?_
  refine mW_scr (i := x4 + 1) dL_law_1370 s1 ?_
  refine mW_aload_n (j := 3) dL_law_1371 rfl rfl ?_
  refine mW_callSH (As := [.ref a1, .int (mScr G ((x4 + 1).toNatClampNeg)), .ref a3]) (rest := []) (kc2 := kc) (ks2 := ks) dL_law_1372 l_L_191 rfl (k1) (Nat.le_of_ble_eq_true rfl) (by decide) (Nat.add_comm _ _) (Nat.add_comm _ _) mRix mRik
theorem u1920 : (Cond.code ⟨"LineFollowerBenchModel", "compare", "(I)I"⟩ prog_13_method_57_code 7 (some .int) : Cond) ∈ mTs := mTs_in 1920 (by decide +kernel) (by decide +kernel)
theorem co_X11_compare : mCode mX11_compare := ⟨u1920, u85, by decide⟩
theorem u1917 : (Cond.methodLink "LineFollowerBenchLaw" 193 ⟨"LineFollowerBenchModel", "compare", "(I)I"⟩ : Cond) ∈ mTs := mTs_in 1917 (by decide +kernel) (by decide +kernel)
theorem u1918 : (Cond.instanceMethod ⟨"LineFollowerBenchModel", "compare", "(I)I"⟩ : Cond) ∈ mTs := mTs_in 1918 (by decide +kernel) (by decide +kernel)
theorem u1919 : (Cond.selects "LineFollowerBenchModel" ⟨"LineFollowerBenchModel", "compare", "(I)I"⟩ ⟨"LineFollowerBenchModel", "compare", "(I)I"⟩ : Cond) ∈ mTs := mTs_in 1919 (by decide +kernel) (by decide +kernel)
theorem l_L_193 : mLinkV "LineFollowerBenchLaw" 193 1 mX11_compare := ⟨⟨by decide, by decide, by decide +kernel⟩, co_X11_compare, u1917, u1918, u1919⟩
set_option maxHeartbeats 4000000 in
set_option maxRecDepth 100000 in
theorem gL_law_1375 {G : mG} {nm : String} {kc ks : Nat} {w : mH} {Φ : mF} {a1 a2 a3 : Nat} {x4 x_0 : Int32} (s1 : vp_in (x4 + 1) (G.2.2.2 6)) (h1 : hk w a2 = (11, 0)) (k1 : mC G mX11_compare 2 0 0 [.ref a2, .int (mScr G ((x4 + 1).toNatClampNeg))] w (mRi G (mL_law nm) 11 kc ks 1387 [(5, .int x_0), (0, .ref (G.2.2.2 5)), (1, .ref a1), (2, .ref a2), (3, .ref a3), (4, .int x4)] [] Φ)) : mW G (mL_law nm) 11 kc ks 1375 [(0, .ref (G.2.2.2 5)), (1, .ref a1), (2, .ref a2), (3, .ref a3), (4, .int x4)] [.int x_0] w Φ := by
  refine mW_istore (lv2 := [(5, .int x_0), (0, .ref (G.2.2.2 5)), (1, .ref a1), (2, .ref a2), (3, .ref a3), (4, .int x4)]) dL_law_1375 (Nat.le_of_ble_eq_true rfl) rfl ?_
  refine mW_aload_n (j := 3) dL_law_1377 rfl rfl ?_
  refine mW_aload_n (j := 1) dL_law_1378 rfl rfl ?_
  refine mW_iload (j := 5) dL_law_1379 rfl ?_
  refine mW_iconst (v := 1) dL_law_1381 (by decide) ?_
  refine mW_iadd dL_law_1382 ?_
  refine mW_scr (i := x4 + 1) dL_law_1383 s1 ?_
  refine mW_callV (As := [.int (mScr G ((x4 + 1).toNatClampNeg))]) (rest := []) (kc2 := kc) (ks2 := ks) dL_law_1384 l_L_193 rfl h1 rfl (by decide) (k1) (Nat.le_of_ble_eq_true rfl) (by decide) (Nat.zero_add _) (Nat.zero_add _) mRix mRik
set_option maxHeartbeats 4000000 in
set_option maxRecDepth 100000 in
theorem gL_law_1387 {G : mG} {nm : String} {kc ks : Nat} {w : mH} {Φ : mF} {a1 a2 a3 : Nat} {x4 x5 x_0 : Int32} {n_a3 : Nat} (h1 : hk w a2 = (11, 0)) (h2 : hk w a3 = (17, n_a3)) (s1 : vp_in 0 n_a3) (k1 : ((hfi w a2 0) = x5) → (¬ (x5 = 0)) → mW G (mL_law nm) 11 kc ks 1930 [(0, .ref (G.2.2.2 5)), (1, .ref a1), (2, .ref a2), (3, .ref a3), (4, .int x4)] [] w Φ) (k2 : ((hfi w a2 0) = x5) → (x5 = 0) → ((lg_cmp (hal w a3 0) x_0.toInt64) = 0) → mW G (mL_law nm) 11 kc ks 1930 [(0, .ref (G.2.2.2 5)), (1, .ref a1), (2, .ref a2), (3, .ref a3), (4, .int x4)] [] w Φ) (k3 : ((hfi w a2 0) = x5) → (x5 = 0) → (¬ ((lg_cmp (hal w a3 0) x_0.toInt64) = 0)) → Φ (.inl (some (.int 0))) w) (k4 : (¬ ((hfi w a2 0) = x5)) → Φ (.inl (some (.int 0))) w) : mW G (mL_law nm) 11 kc ks 1387 [(0, .ref (G.2.2.2 5)), (1, .ref a1), (2, .ref a2), (3, .ref a3), (4, .int x4), (5, .int x5)] [.int x_0] w Φ := by
  refine mW_istore (lv2 := [(6, .int x_0), (0, .ref (G.2.2.2 5)), (1, .ref a1), (2, .ref a2), (3, .ref a3), (4, .int x4), (5, .int x5)]) dL_law_1387 (Nat.le_of_ble_eq_true rfl) rfl ?_
  refine mW_aload_n (j := 3) dL_law_1389 rfl rfl ?_
  refine mW_callVe (As := []) (rest := []) (kc2 := kc) (ks2 := ks) dL_law_1390 l_L_120 rfl h1 rfl (by decide) (qX11_thrown (w := w) (a0 := a2) h1) (Nat.le_of_ble_eq_true rfl) (by decide) (Nat.zero_add _) (Nat.zero_add _) ?_
  refine mW_iload (j := 6) dL_law_1393 rfl ?_
  refine mW_icmp_eq (tgt := 1400) dL_law_1395 (by decide) (fun c1 => ?_) (fun c1 => ?_)
  · refine mW_iload (j := 6) dL_law_1400 rfl ?_
    refine mW_if_ne (tgt := 1417) dL_law_1402 (by decide) (fun c2 => ?_) (fun c2 => ?_)
    · refine mW_goto (tgt := 1930) dL_law_1417 (by decide) ?_
      refine mW_loc [1, 2, 3, 4, 5] (lv2 := [(0, .ref (G.2.2.2 5)), (1, .ref a1), (2, .ref a2), (3, .ref a3), (4, .int x4)]) rfl ?_
      exact k1 c1 c2
    · refine mW_aload_n (j := 4) dL_law_1405 rfl rfl ?_
      refine mW_iconst (v := 0) dL_law_1406 (by decide) ?_
      refine mW_laldJ dL_law_1407 h2 s1 (j := 0) (by decide) ?_
      refine mW_iload (j := 0) dL_law_1408 rfl ?_
      refine mW_i2l dL_law_1410 ?_
      refine mW_lcmp dL_law_1411 ?_
      refine mW_if_eq (tgt := 1417) dL_law_1412 (by decide) (fun c3 => ?_) (fun c3 => ?_)
      · refine mW_goto (tgt := 1930) dL_law_1417 (by decide) ?_
        refine mW_loc [1, 2, 3, 4, 5] (lv2 := [(0, .ref (G.2.2.2 5)), (1, .ref a1), (2, .ref a2), (3, .ref a3), (4, .int x4)]) rfl ?_
        exact k2 c1 c2 c3
      · refine mW_iconst (v := 0) dL_law_1415 (by decide) ?_
        exact mW_zret (ty := .boolean) dL_law_1416 rfl (by first | rfl | decide) (k3 c1 c2 c3)
  · refine mW_iconst (v := 0) dL_law_1398 (by decide) ?_
    exact mW_zret (ty := .boolean) dL_law_1399 rfl (by first | rfl | decide) (k4 c1)
theorem u597 : (Cond.code ⟨"LineFollowerBench", "search", "()I"⟩ prog_1_method_25_code 1 (some .int) : Cond) ∈ mTs := mTs_in 597 (by decide +kernel) (by decide +kernel)
theorem co_X10_search : mCode mX10_search := ⟨u597, u70, by decide⟩
theorem u594 : (Cond.methodLink "LineFollowerBenchLaw" 194 ⟨"LineFollowerBench", "search", "()I"⟩ : Cond) ∈ mTs := mTs_in 594 (by decide +kernel) (by decide +kernel)
theorem u595 : (Cond.instanceMethod ⟨"LineFollowerBench", "search", "()I"⟩ : Cond) ∈ mTs := mTs_in 595 (by decide +kernel) (by decide +kernel)
theorem u596 : (Cond.selects "LineFollowerBench" ⟨"LineFollowerBench", "search", "()I"⟩ ⟨"LineFollowerBench", "search", "()I"⟩ : Cond) ∈ mTs := mTs_in 596 (by decide +kernel) (by decide +kernel)
theorem l_L_194 : mLinkV "LineFollowerBenchLaw" 194 0 mX10_search := ⟨⟨by decide, by decide, by decide +kernel⟩, co_X10_search, u594, u595, u596⟩
set_option maxHeartbeats 4000000 in
set_option maxRecDepth 100000 in
theorem gL_law_1420 {G : mG} {nm : String} {kc ks : Nat} {w : mH} {Φ : mF} {a1 a2 a3 : Nat} {x4 : Int32} (h1 : hk w a1 = (10, 0)) (k1 : mC G mX10_search 9 0 0 [.ref a1] w (mRi G (mL_law nm) 11 kc ks 1424 [(0, .ref (G.2.2.2 5)), (1, .ref a1), (2, .ref a2), (3, .ref a3), (4, .int x4)] [] Φ)) : mW G (mL_law nm) 11 kc ks 1420 [(0, .ref (G.2.2.2 5)), (1, .ref a1), (2, .ref a2), (3, .ref a3), (4, .int x4)] [] w Φ := by
  refine mW_aload_n (j := 1) dL_law_1420 rfl rfl ?_
  refine mW_callV (As := []) (rest := []) (kc2 := kc) (ks2 := ks) dL_law_1421 l_L_194 rfl h1 rfl (by decide) (k1) (Nat.le_of_ble_eq_true rfl) (by decide) (Nat.zero_add _) (Nat.zero_add _) mRix mRik
theorem u1924 : (Cond.code ⟨"LineFollowerBenchModel", "search", "()I"⟩ prog_13_method_61_code 8 (some .int) : Cond) ∈ mTs := mTs_in 1924 (by decide +kernel) (by decide +kernel)
theorem co_X11_search : mCode mX11_search := ⟨u1924, u85, by decide⟩
theorem u1921 : (Cond.methodLink "LineFollowerBenchLaw" 197 ⟨"LineFollowerBenchModel", "search", "()I"⟩ : Cond) ∈ mTs := mTs_in 1921 (by decide +kernel) (by decide +kernel)
theorem u1922 : (Cond.instanceMethod ⟨"LineFollowerBenchModel", "search", "()I"⟩ : Cond) ∈ mTs := mTs_in 1922 (by decide +kernel) (by decide +kernel)
theorem u1923 : (Cond.selects "LineFollowerBenchModel" ⟨"LineFollowerBenchModel", "search", "()I"⟩ ⟨"LineFollowerBenchModel", "search", "()I"⟩ : Cond) ∈ mTs := mTs_in 1923 (by decide +kernel) (by decide +kernel)
theorem l_L_197 : mLinkV "LineFollowerBenchLaw" 197 0 mX11_search := ⟨⟨by decide, by decide, by decide +kernel⟩, co_X11_search, u1921, u1922, u1923⟩
set_option maxHeartbeats 4000000 in
set_option maxRecDepth 100000 in
theorem gL_law_1424 {G : mG} {nm : String} {kc ks : Nat} {w : mH} {Φ : mF} {a1 a2 a3 : Nat} {x4 x_0 : Int32} (h1 : hk w a2 = (11, 0)) (k1 : mC G mX11_search 8 0 0 [.ref a2] w (mRi G (mL_law nm) 11 kc ks 1428 [(0, .ref (G.2.2.2 5)), (1, .ref a1), (2, .ref a2), (3, .ref a3), (4, .int x4)] [.int x_0] Φ)) : mW G (mL_law nm) 11 kc ks 1424 [(0, .ref (G.2.2.2 5)), (1, .ref a1), (2, .ref a2), (3, .ref a3), (4, .int x4)] [.int x_0] w Φ := by
  refine mW_aload_n (j := 2) dL_law_1424 rfl rfl ?_
  refine mW_callV (As := []) (rest := [.int x_0]) (kc2 := kc) (ks2 := ks) dL_law_1425 l_L_197 rfl h1 rfl (by decide) (k1) (Nat.le_of_ble_eq_true rfl) (by decide) (Nat.zero_add _) (Nat.zero_add _) mRix mRik
set_option maxHeartbeats 4000000 in
set_option maxRecDepth 100000 in
theorem gL_law_1428 {G : mG} {nm : String} {kc ks : Nat} {w : mH} {Φ : mF} {a1 a2 a3 : Nat} {x4 x_0 x_1 : Int32}  (k1 : (x_1 = x_0) → mW G (mL_law nm) 11 kc ks 1930 [(0, .ref (G.2.2.2 5)), (1, .ref a1), (2, .ref a2), (3, .ref a3), (4, .int x4)] [] w Φ) (k2 : (¬ (x_1 = x_0)) → Φ (.inl (some (.int 0))) w) : mW G (mL_law nm) 11 kc ks 1428 [(0, .ref (G.2.2.2 5)), (1, .ref a1), (2, .ref a2), (3, .ref a3), (4, .int x4)] [.int x_0, .int x_1] w Φ := by
  refine mW_icmp_eq (tgt := 1930) dL_law_1428 (by decide) (fun c1 => ?_) (fun c1 => ?_)
  · exact k1 c1
  · refine mW_iconst (v := 0) dL_law_1431 (by decide) ?_
    exact mW_zret (ty := .boolean) dL_law_1432 rfl (by first | rfl | decide) (k2 c1)
theorem u678 : (Cond.code ⟨"LineFollowerBench", "climb", "()I"⟩ prog_1_method_26_code 1 (some .int) : Cond) ∈ mTs := mTs_in 678 (by decide +kernel) (by decide +kernel)
theorem co_X10_climb : mCode mX10_climb := ⟨u678, u70, by decide⟩
theorem u675 : (Cond.methodLink "LineFollowerBenchLaw" 198 ⟨"LineFollowerBench", "climb", "()I"⟩ : Cond) ∈ mTs := mTs_in 675 (by decide +kernel) (by decide +kernel)
theorem u676 : (Cond.instanceMethod ⟨"LineFollowerBench", "climb", "()I"⟩ : Cond) ∈ mTs := mTs_in 676 (by decide +kernel) (by decide +kernel)
theorem u677 : (Cond.selects "LineFollowerBench" ⟨"LineFollowerBench", "climb", "()I"⟩ ⟨"LineFollowerBench", "climb", "()I"⟩ : Cond) ∈ mTs := mTs_in 677 (by decide +kernel) (by decide +kernel)
theorem l_L_198 : mLinkV "LineFollowerBenchLaw" 198 0 mX10_climb := ⟨⟨by decide, by decide, by decide +kernel⟩, co_X10_climb, u675, u676, u677⟩
set_option maxHeartbeats 4000000 in
set_option maxRecDepth 100000 in
theorem gL_law_1433 {G : mG} {nm : String} {kc ks : Nat} {w : mH} {Φ : mF} {a1 a2 a3 : Nat} {x4 : Int32} (h1 : hk w a1 = (10, 0)) (k1 : mC G mX10_climb 9 0 0 [.ref a1] w (mRi G (mL_law nm) 11 kc ks 1437 [(0, .ref (G.2.2.2 5)), (1, .ref a1), (2, .ref a2), (3, .ref a3), (4, .int x4)] [] Φ)) : mW G (mL_law nm) 11 kc ks 1433 [(0, .ref (G.2.2.2 5)), (1, .ref a1), (2, .ref a2), (3, .ref a3), (4, .int x4)] [] w Φ := by
  refine mW_aload_n (j := 1) dL_law_1433 rfl rfl ?_
  refine mW_callV (As := []) (rest := []) (kc2 := kc) (ks2 := ks) dL_law_1434 l_L_198 rfl h1 rfl (by decide) (k1) (Nat.le_of_ble_eq_true rfl) (by decide) (Nat.zero_add _) (Nat.zero_add _) mRix mRik
theorem u1948 : (Cond.code ⟨"LineFollowerBenchModel", "climb", "()I"⟩ prog_13_method_63_code 12 (some .int) : Cond) ∈ mTs := mTs_in 1948 (by decide +kernel) (by decide +kernel)
theorem co_X11_climb : mCode mX11_climb := ⟨u1948, u85, by decide⟩
theorem u1945 : (Cond.methodLink "LineFollowerBenchLaw" 201 ⟨"LineFollowerBenchModel", "climb", "()I"⟩ : Cond) ∈ mTs := mTs_in 1945 (by decide +kernel) (by decide +kernel)
theorem u1946 : (Cond.instanceMethod ⟨"LineFollowerBenchModel", "climb", "()I"⟩ : Cond) ∈ mTs := mTs_in 1946 (by decide +kernel) (by decide +kernel)
theorem u1947 : (Cond.selects "LineFollowerBenchModel" ⟨"LineFollowerBenchModel", "climb", "()I"⟩ ⟨"LineFollowerBenchModel", "climb", "()I"⟩ : Cond) ∈ mTs := mTs_in 1947 (by decide +kernel) (by decide +kernel)
theorem l_L_201 : mLinkV "LineFollowerBenchLaw" 201 0 mX11_climb := ⟨⟨by decide, by decide, by decide +kernel⟩, co_X11_climb, u1945, u1946, u1947⟩
set_option maxHeartbeats 4000000 in
set_option maxRecDepth 100000 in
theorem gL_law_1437 {G : mG} {nm : String} {kc ks : Nat} {w : mH} {Φ : mF} {a1 a2 a3 : Nat} {x4 x_0 : Int32} (h1 : hk w a2 = (11, 0)) (k1 : mC G mX11_climb 8 0 0 [.ref a2] w (mRi G (mL_law nm) 11 kc ks 1441 [(0, .ref (G.2.2.2 5)), (1, .ref a1), (2, .ref a2), (3, .ref a3), (4, .int x4)] [.int x_0] Φ)) : mW G (mL_law nm) 11 kc ks 1437 [(0, .ref (G.2.2.2 5)), (1, .ref a1), (2, .ref a2), (3, .ref a3), (4, .int x4)] [.int x_0] w Φ := by
  refine mW_aload_n (j := 2) dL_law_1437 rfl rfl ?_
  refine mW_callV (As := []) (rest := [.int x_0]) (kc2 := kc) (ks2 := ks) dL_law_1438 l_L_201 rfl h1 rfl (by decide) (k1) (Nat.le_of_ble_eq_true rfl) (by decide) (Nat.zero_add _) (Nat.zero_add _) mRix mRik
set_option maxHeartbeats 4000000 in
set_option maxRecDepth 100000 in
theorem gL_law_1441 {G : mG} {nm : String} {kc ks : Nat} {w : mH} {Φ : mF} {a1 a2 a3 : Nat} {x4 x_0 x_1 : Int32}  (k1 : (x_1 = x_0) → mW G (mL_law nm) 11 kc ks 1930 [(0, .ref (G.2.2.2 5)), (1, .ref a1), (2, .ref a2), (3, .ref a3), (4, .int x4)] [] w Φ) (k2 : (¬ (x_1 = x_0)) → Φ (.inl (some (.int 0))) w) : mW G (mL_law nm) 11 kc ks 1441 [(0, .ref (G.2.2.2 5)), (1, .ref a1), (2, .ref a2), (3, .ref a3), (4, .int x4)] [.int x_0, .int x_1] w Φ := by
  refine mW_icmp_eq (tgt := 1930) dL_law_1441 (by decide) (fun c1 => ?_) (fun c1 => ?_)
  · exact k1 c1
  · refine mW_iconst (v := 0) dL_law_1444 (by decide) ?_
    exact mW_zret (ty := .boolean) dL_law_1445 rfl (by first | rfl | decide) (k2 c1)
theorem u1478 : (Cond.codeWith ⟨"LineFollowerBenchLaw", "found", "(LLineFollowerBench;ZI[J)I"⟩ method_24_code 5 (some .int) [(0, 10, 13, 24), (0, 10, 17, 15)] : Cond) ∈ mTs := mTs_in 1478 (by decide +kernel) (by decide +kernel)
theorem u1476 : (Cond.methodLink "LineFollowerBenchLaw" 202 ⟨"LineFollowerBenchLaw", "found", "(LLineFollowerBench;ZI[J)I"⟩ : Cond) ∈ mTs := mTs_in 1476 (by decide +kernel) (by decide +kernel)
theorem u1477 : (Cond.static ⟨"LineFollowerBenchLaw", "found", "(LLineFollowerBench;ZI[J)I"⟩ : Cond) ∈ mTs := mTs_in 1477 (by decide +kernel) (by decide +kernel)
theorem l_L_202 : mLinkSH "LineFollowerBenchLaw" 202 4 mL_found := ⟨⟨by decide, by decide, by decide +kernel⟩, u1478, u69, by decide, u1476, u1477⟩
set_option maxHeartbeats 4000000 in
set_option maxRecDepth 100000 in
theorem gL_law_1446 {G : mG} {nm : String} {kc ks : Nat} {w : mH} {Φ : mF} {a1 a2 a3 : Nat} {x4 : Int32} (s1 : vp_in (x4 + 1) (G.2.2.2 6)) (s2 : ((mScr G ((x4 + 1).toNatClampNeg)) = 0) → vp_in (x4 + 2) (G.2.2.2 6)) (s3 : (¬ ((mScr G ((x4 + 1).toNatClampNeg)) = 0)) → vp_in (x4 + 2) (G.2.2.2 6)) (k1 : ((mScr G ((x4 + 1).toNatClampNeg)) = 0) → mCH G mL_found 10 1 6 [.ref a1, .int 0, .int (mScr G ((x4 + 2).toNatClampNeg)), .ref a3] w (mRi G (mL_law nm) 11 kc ks 1471 [(0, .ref (G.2.2.2 5)), (1, .ref a1), (2, .ref a2), (3, .ref a3), (4, .int x4)] [] Φ)) (k2 : (¬ ((mScr G ((x4 + 1).toNatClampNeg)) = 0)) → mCH G mL_found 10 1 6 [.ref a1, .int 1, .int (mScr G ((x4 + 2).toNatClampNeg)), .ref a3] w (mRi G (mL_law nm) 11 kc ks 1471 [(0, .ref (G.2.2.2 5)), (1, .ref a1), (2, .ref a2), (3, .ref a3), (4, .int x4)] [] Φ)) : mW G (mL_law nm) 11 (kc + 1) (ks + 6) 1446 [(0, .ref (G.2.2.2 5)), (1, .ref a1), (2, .ref a2), (3, .ref a3), (4, .int x4)] [] w Φ := by
  refine mW_aload_n (j := 1) dL_law_1446 rfl rfl ?_
  refine mW_aload_n (j := 0) dL_law_1447 rfl rfl ?_
  refine mW_iload (j := 4) dL_law_1448 rfl ?_
  refine mW_iconst (v := 1) dL_law_1450 (by decide) ?_
  refine mW_iadd dL_law_1451 ?_
  refine mW_scr (i := x4 + 1) dL_law_1452 s1 ?_
  refine mW_if_eq (tgt := 1460) dL_law_1453 (by decide) (fun c1 => ?_) (fun c1 => ?_)
  · refine mW_iconst (v := 0) dL_law_1460 (by decide) ?_
    refine mW_aload_n (j := 0) dL_law_1461 rfl rfl ?_
    refine mW_iload (j := 4) dL_law_1462 rfl ?_
    refine mW_iconst (v := 2) dL_law_1464 (by decide) ?_
    refine mW_iadd dL_law_1465 ?_
    refine mW_scr (i := x4 + 2) dL_law_1466 (s2 c1) ?_
    refine mW_aload_n (j := 3) dL_law_1467 rfl rfl ?_
    refine mW_callSH (As := [.ref a1, .int 0, .int (mScr G ((x4 + 2).toNatClampNeg)), .ref a3]) (rest := []) (kc2 := kc) (ks2 := ks) dL_law_1468 l_L_202 rfl (k1 c1) (Nat.le_of_ble_eq_true rfl) (by decide) (Nat.add_comm _ _) (Nat.add_comm _ _) mRix mRik
  · refine mW_iconst (v := 1) dL_law_1456 (by decide) ?_
    refine mW_goto (tgt := 1461) dL_law_1457 (by decide) ?_
    refine mW_aload_n (j := 0) dL_law_1461 rfl rfl ?_
    refine mW_iload (j := 4) dL_law_1462 rfl ?_
    refine mW_iconst (v := 2) dL_law_1464 (by decide) ?_
    refine mW_iadd dL_law_1465 ?_
    refine mW_scr (i := x4 + 2) dL_law_1466 (s3 c1) ?_
    refine mW_aload_n (j := 3) dL_law_1467 rfl rfl ?_
    refine mW_callSH (As := [.ref a1, .int 1, .int (mScr G ((x4 + 2).toNatClampNeg)), .ref a3]) (rest := []) (kc2 := kc) (ks2 := ks) dL_law_1468 l_L_202 rfl (k2 c1) (Nat.le_of_ble_eq_true rfl) (by decide) (Nat.add_comm _ _) (Nat.add_comm _ _) mRix mRik
theorem u1956 : (Cond.code ⟨"LineFollowerBenchModel", "found", "(ZI)I"⟩ prog_13_method_64_code 4 (some .int) : Cond) ∈ mTs := mTs_in 1956 (by decide +kernel) (by decide +kernel)
theorem co_X11_found : mCode mX11_found := ⟨u1956, u85, by decide⟩
theorem u1953 : (Cond.methodLink "LineFollowerBenchLaw" 205 ⟨"LineFollowerBenchModel", "found", "(ZI)I"⟩ : Cond) ∈ mTs := mTs_in 1953 (by decide +kernel) (by decide +kernel)
theorem u1954 : (Cond.instanceMethod ⟨"LineFollowerBenchModel", "found", "(ZI)I"⟩ : Cond) ∈ mTs := mTs_in 1954 (by decide +kernel) (by decide +kernel)
theorem u1955 : (Cond.selects "LineFollowerBenchModel" ⟨"LineFollowerBenchModel", "found", "(ZI)I"⟩ ⟨"LineFollowerBenchModel", "found", "(ZI)I"⟩ : Cond) ∈ mTs := mTs_in 1955 (by decide +kernel) (by decide +kernel)
theorem l_L_205 : mLinkV "LineFollowerBenchLaw" 205 2 mX11_found := ⟨⟨by decide, by decide, by decide +kernel⟩, co_X11_found, u1953, u1954, u1955⟩
set_option maxHeartbeats 4000000 in
set_option maxRecDepth 100000 in
theorem gL_law_1471 {G : mG} {nm : String} {kc ks : Nat} {w : mH} {Φ : mF} {a1 a2 a3 : Nat} {x4 x_0 : Int32} (s1 : vp_in (x4 + 1) (G.2.2.2 6)) (s2 : ((mScr G ((x4 + 1).toNatClampNeg)) = 0) → vp_in (x4 + 2) (G.2.2.2 6)) (h1 : hk w a2 = (11, 0)) (s3 : (¬ ((mScr G ((x4 + 1).toNatClampNeg)) = 0)) → vp_in (x4 + 2) (G.2.2.2 6)) (k1 : ((mScr G ((x4 + 1).toNatClampNeg)) = 0) → mC G mX11_found 3 0 0 [.ref a2, .int 0, .int (mScr G ((x4 + 2).toNatClampNeg))] w (mRi G (mL_law nm) 11 kc ks 1497 [(5, .int x_0), (0, .ref (G.2.2.2 5)), (1, .ref a1), (2, .ref a2), (3, .ref a3), (4, .int x4)] [] Φ)) (k2 : (¬ ((mScr G ((x4 + 1).toNatClampNeg)) = 0)) → mC G mX11_found 3 0 0 [.ref a2, .int 1, .int (mScr G ((x4 + 2).toNatClampNeg))] w (mRi G (mL_law nm) 11 kc ks 1497 [(5, .int x_0), (0, .ref (G.2.2.2 5)), (1, .ref a1), (2, .ref a2), (3, .ref a3), (4, .int x4)] [] Φ)) : mW G (mL_law nm) 11 kc ks 1471 [(0, .ref (G.2.2.2 5)), (1, .ref a1), (2, .ref a2), (3, .ref a3), (4, .int x4)] [.int x_0] w Φ := by
  refine mW_istore (lv2 := [(5, .int x_0), (0, .ref (G.2.2.2 5)), (1, .ref a1), (2, .ref a2), (3, .ref a3), (4, .int x4)]) dL_law_1471 (Nat.le_of_ble_eq_true rfl) rfl ?_
  refine mW_aload_n (j := 3) dL_law_1473 rfl rfl ?_
  refine mW_aload_n (j := 1) dL_law_1474 rfl rfl ?_
  refine mW_iload (j := 5) dL_law_1475 rfl ?_
  refine mW_iconst (v := 1) dL_law_1477 (by decide) ?_
  refine mW_iadd dL_law_1478 ?_
  refine mW_scr (i := x4 + 1) dL_law_1479 s1 ?_
  refine mW_if_eq (tgt := 1487) dL_law_1480 (by decide) (fun c1 => ?_) (fun c1 => ?_)
  · refine mW_iconst (v := 0) dL_law_1487 (by decide) ?_
    refine mW_aload_n (j := 1) dL_law_1488 rfl rfl ?_
    refine mW_iload (j := 5) dL_law_1489 rfl ?_
    refine mW_iconst (v := 2) dL_law_1491 (by decide) ?_
    refine mW_iadd dL_law_1492 ?_
    refine mW_scr (i := x4 + 2) dL_law_1493 (s2 c1) ?_
    refine mW_callV (As := [.int 0, .int (mScr G ((x4 + 2).toNatClampNeg))]) (rest := []) (kc2 := kc) (ks2 := ks) dL_law_1494 l_L_205 rfl h1 rfl (by decide) (k1 c1) (Nat.le_of_ble_eq_true rfl) (by decide) (Nat.zero_add _) (Nat.zero_add _) mRix mRik
  · refine mW_iconst (v := 1) dL_law_1483 (by decide) ?_
    refine mW_goto (tgt := 1488) dL_law_1484 (by decide) ?_
    refine mW_aload_n (j := 1) dL_law_1488 rfl rfl ?_
    refine mW_iload (j := 5) dL_law_1489 rfl ?_
    refine mW_iconst (v := 2) dL_law_1491 (by decide) ?_
    refine mW_iadd dL_law_1492 ?_
    refine mW_scr (i := x4 + 2) dL_law_1493 (s3 c1) ?_
    refine mW_callV (As := [.int 1, .int (mScr G ((x4 + 2).toNatClampNeg))]) (rest := []) (kc2 := kc) (ks2 := ks) dL_law_1494 l_L_205 rfl h1 rfl (by decide) (k2 c1) (Nat.le_of_ble_eq_true rfl) (by decide) (Nat.zero_add _) (Nat.zero_add _) mRix mRik
set_option maxHeartbeats 4000000 in
set_option maxRecDepth 100000 in
theorem gL_law_1497 {G : mG} {nm : String} {kc ks : Nat} {w : mH} {Φ : mF} {a1 a2 a3 : Nat} {x4 x5 x_0 : Int32} {n_a3 : Nat} (h1 : hk w a2 = (11, 0)) (h2 : hk w a3 = (17, n_a3)) (s1 : vp_in 0 n_a3) (k1 : ((hfi w a2 0) = x5) → (¬ (x5 = 0)) → mW G (mL_law nm) 11 kc ks 1930 [(0, .ref (G.2.2.2 5)), (1, .ref a1), (2, .ref a2), (3, .ref a3), (4, .int x4)] [] w Φ) (k2 : ((hfi w a2 0) = x5) → (x5 = 0) → ((lg_cmp (hal w a3 0) x_0.toInt64) = 0) → mW G (mL_law nm) 11 kc ks 1930 [(0, .ref (G.2.2.2 5)), (1, .ref a1), (2, .ref a2), (3, .ref a3), (4, .int x4)] [] w Φ) (k3 : ((hfi w a2 0) = x5) → (x5 = 0) → (¬ ((lg_cmp (hal w a3 0) x_0.toInt64) = 0)) → Φ (.inl (some (.int 0))) w) (k4 : (¬ ((hfi w a2 0) = x5)) → Φ (.inl (some (.int 0))) w) : mW G (mL_law nm) 11 kc ks 1497 [(0, .ref (G.2.2.2 5)), (1, .ref a1), (2, .ref a2), (3, .ref a3), (4, .int x4), (5, .int x5)] [.int x_0] w Φ := by
  refine mW_istore (lv2 := [(6, .int x_0), (0, .ref (G.2.2.2 5)), (1, .ref a1), (2, .ref a2), (3, .ref a3), (4, .int x4), (5, .int x5)]) dL_law_1497 (Nat.le_of_ble_eq_true rfl) rfl ?_
  refine mW_aload_n (j := 3) dL_law_1499 rfl rfl ?_
  refine mW_callVe (As := []) (rest := []) (kc2 := kc) (ks2 := ks) dL_law_1500 l_L_120 rfl h1 rfl (by decide) (qX11_thrown (w := w) (a0 := a2) h1) (Nat.le_of_ble_eq_true rfl) (by decide) (Nat.zero_add _) (Nat.zero_add _) ?_
  refine mW_iload (j := 6) dL_law_1503 rfl ?_
  refine mW_icmp_eq (tgt := 1510) dL_law_1505 (by decide) (fun c1 => ?_) (fun c1 => ?_)
  · refine mW_iload (j := 6) dL_law_1510 rfl ?_
    refine mW_if_ne (tgt := 1527) dL_law_1512 (by decide) (fun c2 => ?_) (fun c2 => ?_)
    · refine mW_goto (tgt := 1930) dL_law_1527 (by decide) ?_
      refine mW_loc [1, 2, 3, 4, 5] (lv2 := [(0, .ref (G.2.2.2 5)), (1, .ref a1), (2, .ref a2), (3, .ref a3), (4, .int x4)]) rfl ?_
      exact k1 c1 c2
    · refine mW_aload_n (j := 4) dL_law_1515 rfl rfl ?_
      refine mW_iconst (v := 0) dL_law_1516 (by decide) ?_
      refine mW_laldJ dL_law_1517 h2 s1 (j := 0) (by decide) ?_
      refine mW_iload (j := 0) dL_law_1518 rfl ?_
      refine mW_i2l dL_law_1520 ?_
      refine mW_lcmp dL_law_1521 ?_
      refine mW_if_eq (tgt := 1527) dL_law_1522 (by decide) (fun c3 => ?_) (fun c3 => ?_)
      · refine mW_goto (tgt := 1930) dL_law_1527 (by decide) ?_
        refine mW_loc [1, 2, 3, 4, 5] (lv2 := [(0, .ref (G.2.2.2 5)), (1, .ref a1), (2, .ref a2), (3, .ref a3), (4, .int x4)]) rfl ?_
        exact k2 c1 c2 c3
      · refine mW_iconst (v := 0) dL_law_1525 (by decide) ?_
        exact mW_zret (ty := .boolean) dL_law_1526 rfl (by first | rfl | decide) (k3 c1 c2 c3)
  · refine mW_iconst (v := 0) dL_law_1508 (by decide) ?_
    exact mW_zret (ty := .boolean) dL_law_1509 rfl (by first | rfl | decide) (k4 c1)
theorem u1491 : (Cond.codeWith ⟨"LineFollowerBenchLaw", "foundCost", "(LLineFollowerBench;Z[J)I"⟩ method_25_code 4 (some .int) [(0, 8, 11, 24)] : Cond) ∈ mTs := mTs_in 1491 (by decide +kernel) (by decide +kernel)
theorem u1489 : (Cond.methodLink "LineFollowerBenchLaw" 206 ⟨"LineFollowerBenchLaw", "foundCost", "(LLineFollowerBench;Z[J)I"⟩ : Cond) ∈ mTs := mTs_in 1489 (by decide +kernel) (by decide +kernel)
theorem u1490 : (Cond.static ⟨"LineFollowerBenchLaw", "foundCost", "(LLineFollowerBench;Z[J)I"⟩ : Cond) ∈ mTs := mTs_in 1490 (by decide +kernel) (by decide +kernel)
theorem l_L_206 : mLinkSH "LineFollowerBenchLaw" 206 3 mL_foundCost := ⟨⟨by decide, by decide, by decide +kernel⟩, u1491, u69, by decide, u1489, u1490⟩
set_option maxHeartbeats 4000000 in
set_option maxRecDepth 100000 in
theorem gL_law_1530 {G : mG} {nm : String} {kc ks : Nat} {w : mH} {Φ : mF} {a1 a2 a3 : Nat} {x4 : Int32} (s1 : vp_in (x4 + 1) (G.2.2.2 6)) (k1 : ((mScr G ((x4 + 1).toNatClampNeg)) = 0) → mCH G mL_foundCost 10 1 6 [.ref a1, .int 0, .ref a3] w (mRi G (mL_law nm) 11 kc ks 1549 [(0, .ref (G.2.2.2 5)), (1, .ref a1), (2, .ref a2), (3, .ref a3), (4, .int x4)] [] Φ)) (k2 : (¬ ((mScr G ((x4 + 1).toNatClampNeg)) = 0)) → mCH G mL_foundCost 10 1 6 [.ref a1, .int 1, .ref a3] w (mRi G (mL_law nm) 11 kc ks 1549 [(0, .ref (G.2.2.2 5)), (1, .ref a1), (2, .ref a2), (3, .ref a3), (4, .int x4)] [] Φ)) : mW G (mL_law nm) 11 (kc + 1) (ks + 6) 1530 [(0, .ref (G.2.2.2 5)), (1, .ref a1), (2, .ref a2), (3, .ref a3), (4, .int x4)] [] w Φ := by
  refine mW_aload_n (j := 1) dL_law_1530 rfl rfl ?_
  refine mW_aload_n (j := 0) dL_law_1531 rfl rfl ?_
  refine mW_iload (j := 4) dL_law_1532 rfl ?_
  refine mW_iconst (v := 1) dL_law_1534 (by decide) ?_
  refine mW_iadd dL_law_1535 ?_
  refine mW_scr (i := x4 + 1) dL_law_1536 s1 ?_
  refine mW_if_eq (tgt := 1544) dL_law_1537 (by decide) (fun c1 => ?_) (fun c1 => ?_)
  · refine mW_iconst (v := 0) dL_law_1544 (by decide) ?_
    refine mW_aload_n (j := 3) dL_law_1545 rfl rfl ?_
    refine mW_callSH (As := [.ref a1, .int 0, .ref a3]) (rest := []) (kc2 := kc) (ks2 := ks) dL_law_1546 l_L_206 rfl (k1 c1) (Nat.le_of_ble_eq_true rfl) (by decide) (Nat.add_comm _ _) (Nat.add_comm _ _) mRix mRik
  · refine mW_iconst (v := 1) dL_law_1540 (by decide) ?_
    refine mW_goto (tgt := 1545) dL_law_1541 (by decide) ?_
    refine mW_aload_n (j := 3) dL_law_1545 rfl rfl ?_
    refine mW_callSH (As := [.ref a1, .int 1, .ref a3]) (rest := []) (kc2 := kc) (ks2 := ks) dL_law_1546 l_L_206 rfl (k2 c1) (Nat.le_of_ble_eq_true rfl) (by decide) (Nat.add_comm _ _) (Nat.add_comm _ _) mRix mRik
theorem u1961 : (Cond.code ⟨"LineFollowerBenchModel", "foundCost", "(Z)J"⟩ prog_13_method_65_code 3 (some .long) : Cond) ∈ mTs := mTs_in 1961 (by decide +kernel) (by decide +kernel)
theorem co_X11_foundCost : mCode mX11_foundCost := ⟨u1961, u85, by decide⟩
theorem u1958 : (Cond.methodLink "LineFollowerBenchLaw" 209 ⟨"LineFollowerBenchModel", "foundCost", "(Z)J"⟩ : Cond) ∈ mTs := mTs_in 1958 (by decide +kernel) (by decide +kernel)
theorem u1959 : (Cond.instanceMethod ⟨"LineFollowerBenchModel", "foundCost", "(Z)J"⟩ : Cond) ∈ mTs := mTs_in 1959 (by decide +kernel) (by decide +kernel)
theorem u1960 : (Cond.selects "LineFollowerBenchModel" ⟨"LineFollowerBenchModel", "foundCost", "(Z)J"⟩ ⟨"LineFollowerBenchModel", "foundCost", "(Z)J"⟩ : Cond) ∈ mTs := mTs_in 1960 (by decide +kernel) (by decide +kernel)
theorem l_L_209 : mLinkV "LineFollowerBenchLaw" 209 1 mX11_foundCost := ⟨⟨by decide, by decide, by decide +kernel⟩, co_X11_foundCost, u1958, u1959, u1960⟩
set_option maxHeartbeats 4000000 in
set_option maxRecDepth 100000 in
theorem gL_law_1549 {G : mG} {nm : String} {kc ks : Nat} {w : mH} {Φ : mF} {a1 a2 a3 : Nat} {x4 x_0 : Int32} (s1 : vp_in (x4 + 1) (G.2.2.2 6)) (h1 : hk w a2 = (11, 0)) (k1 : ((mScr G ((x4 + 1).toNatClampNeg)) = 0) → mC G mX11_foundCost 2 0 0 [.ref a2, .int 0] w (mRl G (mL_law nm) 11 kc ks 1569 [(5, .int x_0), (0, .ref (G.2.2.2 5)), (1, .ref a1), (2, .ref a2), (3, .ref a3), (4, .int x4)] [] Φ)) (k2 : (¬ ((mScr G ((x4 + 1).toNatClampNeg)) = 0)) → mC G mX11_foundCost 2 0 0 [.ref a2, .int 1] w (mRl G (mL_law nm) 11 kc ks 1569 [(5, .int x_0), (0, .ref (G.2.2.2 5)), (1, .ref a1), (2, .ref a2), (3, .ref a3), (4, .int x4)] [] Φ)) : mW G (mL_law nm) 11 kc ks 1549 [(0, .ref (G.2.2.2 5)), (1, .ref a1), (2, .ref a2), (3, .ref a3), (4, .int x4)] [.int x_0] w Φ := by
  refine mW_istore (lv2 := [(5, .int x_0), (0, .ref (G.2.2.2 5)), (1, .ref a1), (2, .ref a2), (3, .ref a3), (4, .int x4)]) dL_law_1549 (Nat.le_of_ble_eq_true rfl) rfl ?_
  refine mW_aload_n (j := 3) dL_law_1551 rfl rfl ?_
  refine mW_aload_n (j := 1) dL_law_1552 rfl rfl ?_
  refine mW_iload (j := 5) dL_law_1553 rfl ?_
  refine mW_iconst (v := 1) dL_law_1555 (by decide) ?_
  refine mW_iadd dL_law_1556 ?_
  refine mW_scr (i := x4 + 1) dL_law_1557 s1 ?_
  refine mW_if_eq (tgt := 1565) dL_law_1558 (by decide) (fun c1 => ?_) (fun c1 => ?_)
  · refine mW_iconst (v := 0) dL_law_1565 (by decide) ?_
    refine mW_callV (As := [.int 0]) (rest := []) (kc2 := kc) (ks2 := ks) dL_law_1566 l_L_209 rfl h1 rfl (by decide) (k1 c1) (Nat.le_of_ble_eq_true rfl) (by decide) (Nat.zero_add _) (Nat.zero_add _) mRlx mRlk
  · refine mW_iconst (v := 1) dL_law_1561 (by decide) ?_
    refine mW_goto (tgt := 1566) dL_law_1562 (by decide) ?_
    refine mW_callV (As := [.int 1]) (rest := []) (kc2 := kc) (ks2 := ks) dL_law_1566 l_L_209 rfl h1 rfl (by decide) (k2 c1) (Nat.le_of_ble_eq_true rfl) (by decide) (Nat.zero_add _) (Nat.zero_add _) mRlx mRlk
set_option maxHeartbeats 4000000 in
set_option maxRecDepth 100000 in
theorem gL_law_1569 {G : mG} {nm : String} {kc ks : Nat} {w : mH} {Φ : mF} {a1 a2 a3 : Nat} {x4 x5 : Int32} {y_0 : Int64} {n_a3 : Nat} (h1 : hk w a2 = (11, 0)) (h2 : hk w a3 = (17, n_a3)) (s1 : vp_in 0 n_a3) (k1 : ((hfi w a2 0) = x5) → (¬ (x5 = 0)) → mW G (mL_law nm) 11 kc ks 1930 [(0, .ref (G.2.2.2 5)), (1, .ref a1), (2, .ref a2), (3, .ref a3), (4, .int x4)] [] w Φ) (k2 : ((hfi w a2 0) = x5) → (x5 = 0) → ((lg_cmp (hal w a3 0) y_0) = 0) → mW G (mL_law nm) 11 kc ks 1930 [(0, .ref (G.2.2.2 5)), (1, .ref a1), (2, .ref a2), (3, .ref a3), (4, .int x4)] [] w Φ) (k3 : ((hfi w a2 0) = x5) → (x5 = 0) → (¬ ((lg_cmp (hal w a3 0) y_0) = 0)) → Φ (.inl (some (.int 0))) w) (k4 : (¬ ((hfi w a2 0) = x5)) → Φ (.inl (some (.int 0))) w) : mW G (mL_law nm) 11 kc ks 1569 [(0, .ref (G.2.2.2 5)), (1, .ref a1), (2, .ref a2), (3, .ref a3), (4, .int x4), (5, .int x5)] [.long y_0] w Φ := by
  refine mW_lstore (lv2 := [(6, .long y_0), (0, .ref (G.2.2.2 5)), (1, .ref a1), (2, .ref a2), (3, .ref a3), (4, .int x4), (5, .int x5)]) dL_law_1569 (Nat.le_of_ble_eq_true rfl) rfl ?_
  refine mW_aload_n (j := 3) dL_law_1571 rfl rfl ?_
  refine mW_callVe (As := []) (rest := []) (kc2 := kc) (ks2 := ks) dL_law_1572 l_L_120 rfl h1 rfl (by decide) (qX11_thrown (w := w) (a0 := a2) h1) (Nat.le_of_ble_eq_true rfl) (by decide) (Nat.zero_add _) (Nat.zero_add _) ?_
  refine mW_iload (j := 6) dL_law_1575 rfl ?_
  refine mW_icmp_eq (tgt := 1582) dL_law_1577 (by decide) (fun c1 => ?_) (fun c1 => ?_)
  · refine mW_iload (j := 6) dL_law_1582 rfl ?_
    refine mW_if_ne (tgt := 1598) dL_law_1584 (by decide) (fun c2 => ?_) (fun c2 => ?_)
    · refine mW_goto (tgt := 1930) dL_law_1598 (by decide) ?_
      refine mW_loc [1, 2, 3, 4, 5] (lv2 := [(0, .ref (G.2.2.2 5)), (1, .ref a1), (2, .ref a2), (3, .ref a3), (4, .int x4)]) rfl ?_
      exact k1 c1 c2
    · refine mW_aload_n (j := 4) dL_law_1587 rfl rfl ?_
      refine mW_iconst (v := 0) dL_law_1588 (by decide) ?_
      refine mW_laldJ dL_law_1589 h2 s1 (j := 0) (by decide) ?_
      refine mW_lload (j := 0) dL_law_1590 rfl ?_
      refine mW_lcmp dL_law_1592 ?_
      refine mW_if_eq (tgt := 1598) dL_law_1593 (by decide) (fun c3 => ?_) (fun c3 => ?_)
      · refine mW_goto (tgt := 1930) dL_law_1598 (by decide) ?_
        refine mW_loc [1, 2, 3, 4, 5] (lv2 := [(0, .ref (G.2.2.2 5)), (1, .ref a1), (2, .ref a2), (3, .ref a3), (4, .int x4)]) rfl ?_
        exact k2 c1 c2 c3
      · refine mW_iconst (v := 0) dL_law_1596 (by decide) ?_
        exact mW_zret (ty := .boolean) dL_law_1597 rfl (by first | rfl | decide) (k3 c1 c2 c3)
  · refine mW_iconst (v := 0) dL_law_1580 (by decide) ?_
    exact mW_zret (ty := .boolean) dL_law_1581 rfl (by first | rfl | decide) (k4 c1)
theorem u1498 : (Cond.codeWith ⟨"LineFollowerBenchLaw", "apply", "(LLineFollowerBench;Z[J)I"⟩ method_26_code 4 (some .int) [(0, 9, 12, 24)] : Cond) ∈ mTs := mTs_in 1498 (by decide +kernel) (by decide +kernel)
theorem u1496 : (Cond.methodLink "LineFollowerBenchLaw" 210 ⟨"LineFollowerBenchLaw", "apply", "(LLineFollowerBench;Z[J)I"⟩ : Cond) ∈ mTs := mTs_in 1496 (by decide +kernel) (by decide +kernel)
theorem u1497 : (Cond.static ⟨"LineFollowerBenchLaw", "apply", "(LLineFollowerBench;Z[J)I"⟩ : Cond) ∈ mTs := mTs_in 1497 (by decide +kernel) (by decide +kernel)
theorem l_L_210 : mLinkSH "LineFollowerBenchLaw" 210 3 mL_apply := ⟨⟨by decide, by decide, by decide +kernel⟩, u1498, u69, by decide, u1496, u1497⟩
set_option maxHeartbeats 4000000 in
set_option maxRecDepth 100000 in
theorem gL_law_1601 {G : mG} {nm : String} {kc ks : Nat} {w : mH} {Φ : mF} {a1 a2 a3 : Nat} {x4 : Int32} (s1 : vp_in (x4 + 1) (G.2.2.2 6)) (k1 : ((mScr G ((x4 + 1).toNatClampNeg)) = 0) → mCH G mL_apply 10 1 6 [.ref a1, .int 0, .ref a3] w (mRi G (mL_law nm) 11 kc ks 1620 [(0, .ref (G.2.2.2 5)), (1, .ref a1), (2, .ref a2), (3, .ref a3), (4, .int x4)] [] Φ)) (k2 : (¬ ((mScr G ((x4 + 1).toNatClampNeg)) = 0)) → mCH G mL_apply 10 1 6 [.ref a1, .int 1, .ref a3] w (mRi G (mL_law nm) 11 kc ks 1620 [(0, .ref (G.2.2.2 5)), (1, .ref a1), (2, .ref a2), (3, .ref a3), (4, .int x4)] [] Φ)) : mW G (mL_law nm) 11 (kc + 1) (ks + 6) 1601 [(0, .ref (G.2.2.2 5)), (1, .ref a1), (2, .ref a2), (3, .ref a3), (4, .int x4)] [] w Φ := by
  refine mW_aload_n (j := 1) dL_law_1601 rfl rfl ?_
  refine mW_aload_n (j := 0) dL_law_1602 rfl rfl ?_
  refine mW_iload (j := 4) dL_law_1603 rfl ?_
  refine mW_iconst (v := 1) dL_law_1605 (by decide) ?_
  refine mW_iadd dL_law_1606 ?_
  refine mW_scr (i := x4 + 1) dL_law_1607 s1 ?_
  refine mW_if_eq (tgt := 1615) dL_law_1608 (by decide) (fun c1 => ?_) (fun c1 => ?_)
  · refine mW_iconst (v := 0) dL_law_1615 (by decide) ?_
    refine mW_aload_n (j := 3) dL_law_1616 rfl rfl ?_
    refine mW_callSH (As := [.ref a1, .int 0, .ref a3]) (rest := []) (kc2 := kc) (ks2 := ks) dL_law_1617 l_L_210 rfl (k1 c1) (Nat.le_of_ble_eq_true rfl) (by decide) (Nat.add_comm _ _) (Nat.add_comm _ _) mRix mRik
  · refine mW_iconst (v := 1) dL_law_1611 (by decide) ?_
    refine mW_goto (tgt := 1616) dL_law_1612 (by decide) ?_
    refine mW_aload_n (j := 3) dL_law_1616 rfl rfl ?_
    refine mW_callSH (As := [.ref a1, .int 1, .ref a3]) (rest := []) (kc2 := kc) (ks2 := ks) dL_law_1617 l_L_210 rfl (k2 c1) (Nat.le_of_ble_eq_true rfl) (by decide) (Nat.add_comm _ _) (Nat.add_comm _ _) mRix mRik
theorem u1965 : (Cond.code ⟨"LineFollowerBenchModel", "apply", "(Z)I"⟩ prog_13_method_66_code 5 (some .int) : Cond) ∈ mTs := mTs_in 1965 (by decide +kernel) (by decide +kernel)
theorem co_X11_apply : mCode mX11_apply := ⟨u1965, u85, by decide⟩
theorem u1962 : (Cond.methodLink "LineFollowerBenchLaw" 212 ⟨"LineFollowerBenchModel", "apply", "(Z)I"⟩ : Cond) ∈ mTs := mTs_in 1962 (by decide +kernel) (by decide +kernel)
theorem u1963 : (Cond.instanceMethod ⟨"LineFollowerBenchModel", "apply", "(Z)I"⟩ : Cond) ∈ mTs := mTs_in 1963 (by decide +kernel) (by decide +kernel)
theorem u1964 : (Cond.selects "LineFollowerBenchModel" ⟨"LineFollowerBenchModel", "apply", "(Z)I"⟩ ⟨"LineFollowerBenchModel", "apply", "(Z)I"⟩ : Cond) ∈ mTs := mTs_in 1964 (by decide +kernel) (by decide +kernel)
theorem l_L_212 : mLinkV "LineFollowerBenchLaw" 212 1 mX11_apply := ⟨⟨by decide, by decide, by decide +kernel⟩, co_X11_apply, u1962, u1963, u1964⟩
set_option maxHeartbeats 4000000 in
set_option maxRecDepth 100000 in
theorem gL_law_1620 {G : mG} {nm : String} {kc ks : Nat} {w : mH} {Φ : mF} {a1 a2 a3 : Nat} {x4 x_0 : Int32} (s1 : vp_in (x4 + 1) (G.2.2.2 6)) (h1 : hk w a2 = (11, 0)) (k1 : ((mScr G ((x4 + 1).toNatClampNeg)) = 0) → mC G mX11_apply 4 0 0 [.ref a2, .int 0] w (mRi G (mL_law nm) 11 kc ks 1640 [(5, .int x_0), (0, .ref (G.2.2.2 5)), (1, .ref a1), (2, .ref a2), (3, .ref a3), (4, .int x4)] [] Φ)) (k2 : (¬ ((mScr G ((x4 + 1).toNatClampNeg)) = 0)) → mC G mX11_apply 4 0 0 [.ref a2, .int 1] w (mRi G (mL_law nm) 11 kc ks 1640 [(5, .int x_0), (0, .ref (G.2.2.2 5)), (1, .ref a1), (2, .ref a2), (3, .ref a3), (4, .int x4)] [] Φ)) : mW G (mL_law nm) 11 kc ks 1620 [(0, .ref (G.2.2.2 5)), (1, .ref a1), (2, .ref a2), (3, .ref a3), (4, .int x4)] [.int x_0] w Φ := by
  refine mW_istore (lv2 := [(5, .int x_0), (0, .ref (G.2.2.2 5)), (1, .ref a1), (2, .ref a2), (3, .ref a3), (4, .int x4)]) dL_law_1620 (Nat.le_of_ble_eq_true rfl) rfl ?_
  refine mW_aload_n (j := 3) dL_law_1622 rfl rfl ?_
  refine mW_aload_n (j := 1) dL_law_1623 rfl rfl ?_
  refine mW_iload (j := 5) dL_law_1624 rfl ?_
  refine mW_iconst (v := 1) dL_law_1626 (by decide) ?_
  refine mW_iadd dL_law_1627 ?_
  refine mW_scr (i := x4 + 1) dL_law_1628 s1 ?_
  refine mW_if_eq (tgt := 1636) dL_law_1629 (by decide) (fun c1 => ?_) (fun c1 => ?_)
  · refine mW_iconst (v := 0) dL_law_1636 (by decide) ?_
    refine mW_callV (As := [.int 0]) (rest := []) (kc2 := kc) (ks2 := ks) dL_law_1637 l_L_212 rfl h1 rfl (by decide) (k1 c1) (Nat.le_of_ble_eq_true rfl) (by decide) (Nat.zero_add _) (Nat.zero_add _) mRix mRik
  · refine mW_iconst (v := 1) dL_law_1632 (by decide) ?_
    refine mW_goto (tgt := 1637) dL_law_1633 (by decide) ?_
    refine mW_callV (As := [.int 1]) (rest := []) (kc2 := kc) (ks2 := ks) dL_law_1637 l_L_212 rfl h1 rfl (by decide) (k2 c1) (Nat.le_of_ble_eq_true rfl) (by decide) (Nat.zero_add _) (Nat.zero_add _) mRix mRik
set_option maxHeartbeats 4000000 in
set_option maxRecDepth 100000 in
theorem gL_law_1640 {G : mG} {nm : String} {kc ks : Nat} {w : mH} {Φ : mF} {a1 a2 a3 : Nat} {x4 x5 x_0 : Int32} {n_a3 : Nat} (h1 : hk w a2 = (11, 0)) (h2 : hk w a3 = (17, n_a3)) (s1 : vp_in 0 n_a3) (k1 : ((hfi w a2 0) = x5) → (¬ (x5 = 0)) → mW G (mL_law nm) 11 kc ks 1930 [(0, .ref (G.2.2.2 5)), (1, .ref a1), (2, .ref a2), (3, .ref a3), (4, .int x4)] [] w Φ) (k2 : ((hfi w a2 0) = x5) → (x5 = 0) → ((lg_cmp (hal w a3 0) x_0.toInt64) = 0) → mW G (mL_law nm) 11 kc ks 1930 [(0, .ref (G.2.2.2 5)), (1, .ref a1), (2, .ref a2), (3, .ref a3), (4, .int x4)] [] w Φ) (k3 : ((hfi w a2 0) = x5) → (x5 = 0) → (¬ ((lg_cmp (hal w a3 0) x_0.toInt64) = 0)) → Φ (.inl (some (.int 0))) w) (k4 : (¬ ((hfi w a2 0) = x5)) → Φ (.inl (some (.int 0))) w) : mW G (mL_law nm) 11 kc ks 1640 [(0, .ref (G.2.2.2 5)), (1, .ref a1), (2, .ref a2), (3, .ref a3), (4, .int x4), (5, .int x5)] [.int x_0] w Φ := by
  refine mW_istore (lv2 := [(6, .int x_0), (0, .ref (G.2.2.2 5)), (1, .ref a1), (2, .ref a2), (3, .ref a3), (4, .int x4), (5, .int x5)]) dL_law_1640 (Nat.le_of_ble_eq_true rfl) rfl ?_
  refine mW_aload_n (j := 3) dL_law_1642 rfl rfl ?_
  refine mW_callVe (As := []) (rest := []) (kc2 := kc) (ks2 := ks) dL_law_1643 l_L_120 rfl h1 rfl (by decide) (qX11_thrown (w := w) (a0 := a2) h1) (Nat.le_of_ble_eq_true rfl) (by decide) (Nat.zero_add _) (Nat.zero_add _) ?_
  refine mW_iload (j := 6) dL_law_1646 rfl ?_
  refine mW_icmp_eq (tgt := 1653) dL_law_1648 (by decide) (fun c1 => ?_) (fun c1 => ?_)
  · refine mW_iload (j := 6) dL_law_1653 rfl ?_
    refine mW_if_ne (tgt := 1670) dL_law_1655 (by decide) (fun c2 => ?_) (fun c2 => ?_)
    · refine mW_goto (tgt := 1930) dL_law_1670 (by decide) ?_
      refine mW_loc [1, 2, 3, 4, 5] (lv2 := [(0, .ref (G.2.2.2 5)), (1, .ref a1), (2, .ref a2), (3, .ref a3), (4, .int x4)]) rfl ?_
      exact k1 c1 c2
    · refine mW_aload_n (j := 4) dL_law_1658 rfl rfl ?_
      refine mW_iconst (v := 0) dL_law_1659 (by decide) ?_
      refine mW_laldJ dL_law_1660 h2 s1 (j := 0) (by decide) ?_
      refine mW_iload (j := 0) dL_law_1661 rfl ?_
      refine mW_i2l dL_law_1663 ?_
      refine mW_lcmp dL_law_1664 ?_
      refine mW_if_eq (tgt := 1670) dL_law_1665 (by decide) (fun c3 => ?_) (fun c3 => ?_)
      · refine mW_goto (tgt := 1930) dL_law_1670 (by decide) ?_
        refine mW_loc [1, 2, 3, 4, 5] (lv2 := [(0, .ref (G.2.2.2 5)), (1, .ref a1), (2, .ref a2), (3, .ref a3), (4, .int x4)]) rfl ?_
        exact k2 c1 c2 c3
      · refine mW_iconst (v := 0) dL_law_1668 (by decide) ?_
        exact mW_zret (ty := .boolean) dL_law_1669 rfl (by first | rfl | decide) (k3 c1 c2 c3)
  · refine mW_iconst (v := 0) dL_law_1651 (by decide) ?_
    exact mW_zret (ty := .boolean) dL_law_1652 rfl (by first | rfl | decide) (k4 c1)
theorem u1986 : (Cond.constantLong "LineFollowerBenchLaw" 213 4294967295 : Cond) ∈ mTs := mTs_in 1986 (by decide +kernel) (by decide +kernel)
theorem u1505 : (Cond.codeWith ⟨"LineFollowerBenchLaw", "lowest", "(LLineFollowerBench;IJ[J)I"⟩ method_27_code 6 (some .int) [(0, 11, 14, 13), (0, 11, 18, 29)] : Cond) ∈ mTs := mTs_in 1505 (by decide +kernel) (by decide +kernel)
theorem u1503 : (Cond.methodLink "LineFollowerBenchLaw" 215 ⟨"LineFollowerBenchLaw", "lowest", "(LLineFollowerBench;IJ[J)I"⟩ : Cond) ∈ mTs := mTs_in 1503 (by decide +kernel) (by decide +kernel)
theorem u1504 : (Cond.static ⟨"LineFollowerBenchLaw", "lowest", "(LLineFollowerBench;IJ[J)I"⟩ : Cond) ∈ mTs := mTs_in 1504 (by decide +kernel) (by decide +kernel)
theorem l_L_215 : mLinkSH "LineFollowerBenchLaw" 215 4 mL_lowest := ⟨⟨by decide, by decide, by decide +kernel⟩, u1505, u69, by decide, u1503, u1504⟩
set_option maxHeartbeats 4000000 in
set_option maxRecDepth 100000 in
theorem gL_law_1673 {G : mG} {nm : String} {kc ks : Nat} {w : mH} {Φ : mF} {a1 a2 a3 : Nat} {x4 : Int32} (s1 : vp_in (x4 + 1) (G.2.2.2 6)) (s2 : vp_in (x4 + 2) (G.2.2.2 6)) (s3 : vp_in (x4 + 3) (G.2.2.2 6)) (k1 : mCH G mL_lowest 10 1 6 [.ref a1, .int (mScr G ((x4 + 1).toNatClampNeg)), .long ((((mScr G ((x4 + 2).toNatClampNeg)).toInt64) <<< ((32 : Int32).toInt64 &&& 63)) ||| (((mScr G ((x4 + 3).toNatClampNeg)).toInt64) &&& 4294967295)), .ref a3] w (mRi G (mL_law nm) 11 kc ks 1706 [(0, .ref (G.2.2.2 5)), (1, .ref a1), (2, .ref a2), (3, .ref a3), (4, .int x4)] [] Φ)) : mW G (mL_law nm) 11 (kc + 1) (ks + 6) 1673 [(0, .ref (G.2.2.2 5)), (1, .ref a1), (2, .ref a2), (3, .ref a3), (4, .int x4)] [] w Φ := by
  refine mW_aload_n (j := 1) dL_law_1673 rfl rfl ?_
  refine mW_aload_n (j := 0) dL_law_1674 rfl rfl ?_
  refine mW_iload (j := 4) dL_law_1675 rfl ?_
  refine mW_iconst (v := 1) dL_law_1677 (by decide) ?_
  refine mW_iadd dL_law_1678 ?_
  refine mW_scr (i := x4 + 1) dL_law_1679 s1 ?_
  refine mW_aload_n (j := 0) dL_law_1680 rfl rfl ?_
  refine mW_iload (j := 4) dL_law_1681 rfl ?_
  refine mW_iconst (v := 2) dL_law_1683 (by decide) ?_
  refine mW_iadd dL_law_1684 ?_
  refine mW_scr (i := x4 + 2) dL_law_1685 s2 ?_
  refine mW_i2l dL_law_1686 ?_
  refine mW_bipush (v := 32) dL_law_1687 (by decide) ?_
  refine mW_lshl dL_law_1689 rfl ?_
  refine mW_aload_n (j := 0) dL_law_1690 rfl rfl ?_
  refine mW_iload (j := 4) dL_law_1691 rfl ?_
  refine mW_iconst (v := 3) dL_law_1693 (by decide) ?_
  refine mW_iadd dL_law_1694 ?_
  refine mW_scr (i := x4 + 3) dL_law_1695 s3 ?_
  refine mW_i2l dL_law_1696 ?_
  refine mW_ldc2 (v := 4294967295) dL_law_1697 u1986 ?_
  refine mW_land dL_law_1700 ?_
  refine mW_lor dL_law_1701 ?_
  refine mW_aload_n (j := 3) dL_law_1702 rfl rfl ?_
  refine mW_callSH (As := [.ref a1, .int (mScr G ((x4 + 1).toNatClampNeg)), .long ((((mScr G ((x4 + 2).toNatClampNeg)).toInt64) <<< ((32 : Int32).toInt64 &&& 63)) ||| (((mScr G ((x4 + 3).toNatClampNeg)).toInt64) &&& 4294967295)), .ref a3]) (rest := []) (kc2 := kc) (ks2 := ks) dL_law_1703 l_L_215 rfl (k1) (Nat.le_of_ble_eq_true rfl) (by decide) (Nat.add_comm _ _) (Nat.add_comm _ _) mRix mRik
theorem u1969 : (Cond.code ⟨"LineFollowerBenchModel", "lowest", "(IJ)I"⟩ prog_13_method_67_code 7 (some .int) : Cond) ∈ mTs := mTs_in 1969 (by decide +kernel) (by decide +kernel)
theorem co_X11_lowest : mCode mX11_lowest := ⟨u1969, u85, by decide⟩
theorem u1966 : (Cond.methodLink "LineFollowerBenchLaw" 218 ⟨"LineFollowerBenchModel", "lowest", "(IJ)I"⟩ : Cond) ∈ mTs := mTs_in 1966 (by decide +kernel) (by decide +kernel)
theorem u1967 : (Cond.instanceMethod ⟨"LineFollowerBenchModel", "lowest", "(IJ)I"⟩ : Cond) ∈ mTs := mTs_in 1967 (by decide +kernel) (by decide +kernel)
theorem u1968 : (Cond.selects "LineFollowerBenchModel" ⟨"LineFollowerBenchModel", "lowest", "(IJ)I"⟩ ⟨"LineFollowerBenchModel", "lowest", "(IJ)I"⟩ : Cond) ∈ mTs := mTs_in 1968 (by decide +kernel) (by decide +kernel)
theorem l_L_218 : mLinkV "LineFollowerBenchLaw" 218 2 mX11_lowest := ⟨⟨by decide, by decide, by decide +kernel⟩, co_X11_lowest, u1966, u1967, u1968⟩
set_option maxHeartbeats 4000000 in
set_option maxRecDepth 100000 in
theorem gL_law_1706 {G : mG} {nm : String} {kc ks : Nat} {w : mH} {Φ : mF} {a1 a2 a3 : Nat} {x4 x_0 : Int32} (s1 : vp_in (x4 + 1) (G.2.2.2 6)) (s2 : vp_in (x4 + 2) (G.2.2.2 6)) (s3 : vp_in (x4 + 3) (G.2.2.2 6)) (h1 : hk w a2 = (11, 0)) (k1 : mC G mX11_lowest 8 0 0 [.ref a2, .int (mScr G ((x4 + 1).toNatClampNeg)), .long ((((mScr G ((x4 + 2).toNatClampNeg)).toInt64) <<< ((32 : Int32).toInt64 &&& 63)) ||| (((mScr G ((x4 + 3).toNatClampNeg)).toInt64) &&& 4294967295))] w (mRi G (mL_law nm) 11 kc ks 1740 [(5, .int x_0), (0, .ref (G.2.2.2 5)), (1, .ref a1), (2, .ref a2), (3, .ref a3), (4, .int x4)] [] Φ)) : mW G (mL_law nm) 11 kc ks 1706 [(0, .ref (G.2.2.2 5)), (1, .ref a1), (2, .ref a2), (3, .ref a3), (4, .int x4)] [.int x_0] w Φ := by
  refine mW_istore (lv2 := [(5, .int x_0), (0, .ref (G.2.2.2 5)), (1, .ref a1), (2, .ref a2), (3, .ref a3), (4, .int x4)]) dL_law_1706 (Nat.le_of_ble_eq_true rfl) rfl ?_
  refine mW_aload_n (j := 3) dL_law_1708 rfl rfl ?_
  refine mW_aload_n (j := 1) dL_law_1709 rfl rfl ?_
  refine mW_iload (j := 5) dL_law_1710 rfl ?_
  refine mW_iconst (v := 1) dL_law_1712 (by decide) ?_
  refine mW_iadd dL_law_1713 ?_
  refine mW_scr (i := x4 + 1) dL_law_1714 s1 ?_
  refine mW_aload_n (j := 1) dL_law_1715 rfl rfl ?_
  refine mW_iload (j := 5) dL_law_1716 rfl ?_
  refine mW_iconst (v := 2) dL_law_1718 (by decide) ?_
  refine mW_iadd dL_law_1719 ?_
  refine mW_scr (i := x4 + 2) dL_law_1720 s2 ?_
  refine mW_i2l dL_law_1721 ?_
  refine mW_bipush (v := 32) dL_law_1722 (by decide) ?_
  refine mW_lshl dL_law_1724 rfl ?_
  refine mW_aload_n (j := 1) dL_law_1725 rfl rfl ?_
  refine mW_iload (j := 5) dL_law_1726 rfl ?_
  refine mW_iconst (v := 3) dL_law_1728 (by decide) ?_
  refine mW_iadd dL_law_1729 ?_
  refine mW_scr (i := x4 + 3) dL_law_1730 s3 ?_
  refine mW_i2l dL_law_1731 ?_
  refine mW_ldc2 (v := 4294967295) dL_law_1732 u1986 ?_
  refine mW_land dL_law_1735 ?_
  refine mW_lor dL_law_1736 ?_
  refine mW_callV (As := [.int (mScr G ((x4 + 1).toNatClampNeg)), .long ((((mScr G ((x4 + 2).toNatClampNeg)).toInt64) <<< ((32 : Int32).toInt64 &&& 63)) ||| (((mScr G ((x4 + 3).toNatClampNeg)).toInt64) &&& 4294967295))]) (rest := []) (kc2 := kc) (ks2 := ks) dL_law_1737 l_L_218 rfl h1 rfl (by decide) (k1) (Nat.le_of_ble_eq_true rfl) (by decide) (Nat.zero_add _) (Nat.zero_add _) mRix mRik
set_option maxHeartbeats 4000000 in
set_option maxRecDepth 100000 in
theorem gL_law_1740 {G : mG} {nm : String} {kc ks : Nat} {w : mH} {Φ : mF} {a1 a2 a3 : Nat} {x4 x5 x_0 : Int32} {n_a3 : Nat} (h1 : hk w a2 = (11, 0)) (h2 : hk w a3 = (17, n_a3)) (s1 : vp_in 0 n_a3) (k1 : ((hfi w a2 0) = x5) → (¬ (x5 = 0)) → mW G (mL_law nm) 11 kc ks 1930 [(0, .ref (G.2.2.2 5)), (1, .ref a1), (2, .ref a2), (3, .ref a3), (4, .int x4)] [] w Φ) (k2 : ((hfi w a2 0) = x5) → (x5 = 0) → ((lg_cmp (hal w a3 0) x_0.toInt64) = 0) → mW G (mL_law nm) 11 kc ks 1930 [(0, .ref (G.2.2.2 5)), (1, .ref a1), (2, .ref a2), (3, .ref a3), (4, .int x4)] [] w Φ) (k3 : ((hfi w a2 0) = x5) → (x5 = 0) → (¬ ((lg_cmp (hal w a3 0) x_0.toInt64) = 0)) → Φ (.inl (some (.int 0))) w) (k4 : (¬ ((hfi w a2 0) = x5)) → Φ (.inl (some (.int 0))) w) : mW G (mL_law nm) 11 kc ks 1740 [(0, .ref (G.2.2.2 5)), (1, .ref a1), (2, .ref a2), (3, .ref a3), (4, .int x4), (5, .int x5)] [.int x_0] w Φ := by
  refine mW_istore (lv2 := [(6, .int x_0), (0, .ref (G.2.2.2 5)), (1, .ref a1), (2, .ref a2), (3, .ref a3), (4, .int x4), (5, .int x5)]) dL_law_1740 (Nat.le_of_ble_eq_true rfl) rfl ?_
  refine mW_aload_n (j := 3) dL_law_1742 rfl rfl ?_
  refine mW_callVe (As := []) (rest := []) (kc2 := kc) (ks2 := ks) dL_law_1743 l_L_120 rfl h1 rfl (by decide) (qX11_thrown (w := w) (a0 := a2) h1) (Nat.le_of_ble_eq_true rfl) (by decide) (Nat.zero_add _) (Nat.zero_add _) ?_
  refine mW_iload (j := 6) dL_law_1746 rfl ?_
  refine mW_icmp_eq (tgt := 1753) dL_law_1748 (by decide) (fun c1 => ?_) (fun c1 => ?_)
  · refine mW_iload (j := 6) dL_law_1753 rfl ?_
    refine mW_if_ne (tgt := 1770) dL_law_1755 (by decide) (fun c2 => ?_) (fun c2 => ?_)
    · refine mW_goto (tgt := 1930) dL_law_1770 (by decide) ?_
      refine mW_loc [1, 2, 3, 4, 5] (lv2 := [(0, .ref (G.2.2.2 5)), (1, .ref a1), (2, .ref a2), (3, .ref a3), (4, .int x4)]) rfl ?_
      exact k1 c1 c2
    · refine mW_aload_n (j := 4) dL_law_1758 rfl rfl ?_
      refine mW_iconst (v := 0) dL_law_1759 (by decide) ?_
      refine mW_laldJ dL_law_1760 h2 s1 (j := 0) (by decide) ?_
      refine mW_iload (j := 0) dL_law_1761 rfl ?_
      refine mW_i2l dL_law_1763 ?_
      refine mW_lcmp dL_law_1764 ?_
      refine mW_if_eq (tgt := 1770) dL_law_1765 (by decide) (fun c3 => ?_) (fun c3 => ?_)
      · refine mW_goto (tgt := 1930) dL_law_1770 (by decide) ?_
        refine mW_loc [1, 2, 3, 4, 5] (lv2 := [(0, .ref (G.2.2.2 5)), (1, .ref a1), (2, .ref a2), (3, .ref a3), (4, .int x4)]) rfl ?_
        exact k2 c1 c2 c3
      · refine mW_iconst (v := 0) dL_law_1768 (by decide) ?_
        exact mW_zret (ty := .boolean) dL_law_1769 rfl (by first | rfl | decide) (k3 c1 c2 c3)
  · refine mW_iconst (v := 0) dL_law_1751 (by decide) ?_
    exact mW_zret (ty := .boolean) dL_law_1752 rfl (by first | rfl | decide) (k4 c1)
theorem u1519 : (Cond.codeWith ⟨"LineFollowerBenchLaw", "count", "(LLineFollowerBench;I[J)I"⟩ method_28_code 4 (some .int) [(0, 9, 12, 15)] : Cond) ∈ mTs := mTs_in 1519 (by decide +kernel) (by decide +kernel)
theorem u1517 : (Cond.methodLink "LineFollowerBenchLaw" 219 ⟨"LineFollowerBenchLaw", "count", "(LLineFollowerBench;I[J)I"⟩ : Cond) ∈ mTs := mTs_in 1517 (by decide +kernel) (by decide +kernel)
theorem u1518 : (Cond.static ⟨"LineFollowerBenchLaw", "count", "(LLineFollowerBench;I[J)I"⟩ : Cond) ∈ mTs := mTs_in 1518 (by decide +kernel) (by decide +kernel)
theorem l_L_219 : mLinkSH "LineFollowerBenchLaw" 219 3 mL_count := ⟨⟨by decide, by decide, by decide +kernel⟩, u1519, u69, by decide, u1517, u1518⟩
set_option maxHeartbeats 4000000 in
set_option maxRecDepth 100000 in
theorem gL_law_1773 {G : mG} {nm : String} {kc ks : Nat} {w : mH} {Φ : mF} {a1 a2 a3 : Nat} {x4 : Int32} (s1 : vp_in (x4 + 1) (G.2.2.2 6)) (k1 : mCH G mL_count 10 1 6 [.ref a1, .int (mScr G ((x4 + 1).toNatClampNeg)), .ref a3] w (mRi G (mL_law nm) 11 kc ks 1784 [(0, .ref (G.2.2.2 5)), (1, .ref a1), (2, .ref a2), (3, .ref a3), (4, .int x4)] [] Φ)) : mW G (mL_law nm) 11 (kc + 1) (ks + 6) 1773 [(0, .ref (G.2.2.2 5)), (1, .ref a1), (2, .ref a2), (3, .ref a3), (4, .int x4)] [] w Φ := by
  refine mW_aload_n (j := 1) dL_law_1773 rfl rfl ?_
  refine mW_aload_n (j := 0) dL_law_1774 rfl rfl ?_
  refine mW_iload (j := 4) dL_law_1775 rfl ?_
  refine mW_iconst (v := 1) dL_law_1777 (by decide) ?_
  refine mW_iadd dL_law_1778 ?_
  refine mW_scr (i := x4 + 1) dL_law_1779 s1 ?_
  refine mW_aload_n (j := 3) dL_law_1780 rfl rfl ?_
  refine mW_callSH (As := [.ref a1, .int (mScr G ((x4 + 1).toNatClampNeg)), .ref a3]) (rest := []) (kc2 := kc) (ks2 := ks) dL_law_1781 l_L_219 rfl (k1) (Nat.le_of_ble_eq_true rfl) (by decide) (Nat.add_comm _ _) (Nat.add_comm _ _) mRix mRik
theorem u1973 : (Cond.code ⟨"LineFollowerBenchModel", "count", "(I)I"⟩ prog_13_method_68_code 4 (some .int) : Cond) ∈ mTs := mTs_in 1973 (by decide +kernel) (by decide +kernel)
theorem co_X11_count : mCode mX11_count := ⟨u1973, u85, by decide⟩
theorem u1970 : (Cond.methodLink "LineFollowerBenchLaw" 221 ⟨"LineFollowerBenchModel", "count", "(I)I"⟩ : Cond) ∈ mTs := mTs_in 1970 (by decide +kernel) (by decide +kernel)
theorem u1971 : (Cond.instanceMethod ⟨"LineFollowerBenchModel", "count", "(I)I"⟩ : Cond) ∈ mTs := mTs_in 1971 (by decide +kernel) (by decide +kernel)
theorem u1972 : (Cond.selects "LineFollowerBenchModel" ⟨"LineFollowerBenchModel", "count", "(I)I"⟩ ⟨"LineFollowerBenchModel", "count", "(I)I"⟩ : Cond) ∈ mTs := mTs_in 1972 (by decide +kernel) (by decide +kernel)
theorem l_L_221 : mLinkV "LineFollowerBenchLaw" 221 1 mX11_count := ⟨⟨by decide, by decide, by decide +kernel⟩, co_X11_count, u1970, u1971, u1972⟩
set_option maxHeartbeats 4000000 in
set_option maxRecDepth 100000 in
theorem gL_law_1784 {G : mG} {nm : String} {kc ks : Nat} {w : mH} {Φ : mF} {a1 a2 a3 : Nat} {x4 x_0 : Int32} (s1 : vp_in (x4 + 1) (G.2.2.2 6)) (h1 : hk w a2 = (11, 0)) (k1 : mC G mX11_count 3 0 0 [.ref a2, .int (mScr G ((x4 + 1).toNatClampNeg))] w (mRi G (mL_law nm) 11 kc ks 1796 [(5, .int x_0), (0, .ref (G.2.2.2 5)), (1, .ref a1), (2, .ref a2), (3, .ref a3), (4, .int x4)] [] Φ)) : mW G (mL_law nm) 11 kc ks 1784 [(0, .ref (G.2.2.2 5)), (1, .ref a1), (2, .ref a2), (3, .ref a3), (4, .int x4)] [.int x_0] w Φ := by
  refine mW_istore (lv2 := [(5, .int x_0), (0, .ref (G.2.2.2 5)), (1, .ref a1), (2, .ref a2), (3, .ref a3), (4, .int x4)]) dL_law_1784 (Nat.le_of_ble_eq_true rfl) rfl ?_
  refine mW_aload_n (j := 3) dL_law_1786 rfl rfl ?_
  refine mW_aload_n (j := 1) dL_law_1787 rfl rfl ?_
  refine mW_iload (j := 5) dL_law_1788 rfl ?_
  refine mW_iconst (v := 1) dL_law_1790 (by decide) ?_
  refine mW_iadd dL_law_1791 ?_
  refine mW_scr (i := x4 + 1) dL_law_1792 s1 ?_
  refine mW_callV (As := [.int (mScr G ((x4 + 1).toNatClampNeg))]) (rest := []) (kc2 := kc) (ks2 := ks) dL_law_1793 l_L_221 rfl h1 rfl (by decide) (k1) (Nat.le_of_ble_eq_true rfl) (by decide) (Nat.zero_add _) (Nat.zero_add _) mRix mRik
set_option maxHeartbeats 4000000 in
set_option maxRecDepth 100000 in
theorem gL_law_1796 {G : mG} {nm : String} {kc ks : Nat} {w : mH} {Φ : mF} {a1 a2 a3 : Nat} {x4 x5 x_0 : Int32} {n_a3 : Nat} (h1 : hk w a2 = (11, 0)) (h2 : hk w a3 = (17, n_a3)) (s1 : vp_in 0 n_a3) (k1 : ((hfi w a2 0) = x5) → (¬ (x5 = 0)) → mW G (mL_law nm) 11 kc ks 1930 [(0, .ref (G.2.2.2 5)), (1, .ref a1), (2, .ref a2), (3, .ref a3), (4, .int x4)] [] w Φ) (k2 : ((hfi w a2 0) = x5) → (x5 = 0) → ((lg_cmp (hal w a3 0) x_0.toInt64) = 0) → mW G (mL_law nm) 11 kc ks 1930 [(0, .ref (G.2.2.2 5)), (1, .ref a1), (2, .ref a2), (3, .ref a3), (4, .int x4)] [] w Φ) (k3 : ((hfi w a2 0) = x5) → (x5 = 0) → (¬ ((lg_cmp (hal w a3 0) x_0.toInt64) = 0)) → Φ (.inl (some (.int 0))) w) (k4 : (¬ ((hfi w a2 0) = x5)) → Φ (.inl (some (.int 0))) w) : mW G (mL_law nm) 11 kc ks 1796 [(0, .ref (G.2.2.2 5)), (1, .ref a1), (2, .ref a2), (3, .ref a3), (4, .int x4), (5, .int x5)] [.int x_0] w Φ := by
  refine mW_istore (lv2 := [(6, .int x_0), (0, .ref (G.2.2.2 5)), (1, .ref a1), (2, .ref a2), (3, .ref a3), (4, .int x4), (5, .int x5)]) dL_law_1796 (Nat.le_of_ble_eq_true rfl) rfl ?_
  refine mW_aload_n (j := 3) dL_law_1798 rfl rfl ?_
  refine mW_callVe (As := []) (rest := []) (kc2 := kc) (ks2 := ks) dL_law_1799 l_L_120 rfl h1 rfl (by decide) (qX11_thrown (w := w) (a0 := a2) h1) (Nat.le_of_ble_eq_true rfl) (by decide) (Nat.zero_add _) (Nat.zero_add _) ?_
  refine mW_iload (j := 6) dL_law_1802 rfl ?_
  refine mW_icmp_eq (tgt := 1809) dL_law_1804 (by decide) (fun c1 => ?_) (fun c1 => ?_)
  · refine mW_iload (j := 6) dL_law_1809 rfl ?_
    refine mW_if_ne (tgt := 1826) dL_law_1811 (by decide) (fun c2 => ?_) (fun c2 => ?_)
    · refine mW_goto (tgt := 1930) dL_law_1826 (by decide) ?_
      refine mW_loc [1, 2, 3, 4, 5] (lv2 := [(0, .ref (G.2.2.2 5)), (1, .ref a1), (2, .ref a2), (3, .ref a3), (4, .int x4)]) rfl ?_
      exact k1 c1 c2
    · refine mW_aload_n (j := 4) dL_law_1814 rfl rfl ?_
      refine mW_iconst (v := 0) dL_law_1815 (by decide) ?_
      refine mW_laldJ dL_law_1816 h2 s1 (j := 0) (by decide) ?_
      refine mW_iload (j := 0) dL_law_1817 rfl ?_
      refine mW_i2l dL_law_1819 ?_
      refine mW_lcmp dL_law_1820 ?_
      refine mW_if_eq (tgt := 1826) dL_law_1821 (by decide) (fun c3 => ?_) (fun c3 => ?_)
      · refine mW_goto (tgt := 1930) dL_law_1826 (by decide) ?_
        refine mW_loc [1, 2, 3, 4, 5] (lv2 := [(0, .ref (G.2.2.2 5)), (1, .ref a1), (2, .ref a2), (3, .ref a3), (4, .int x4)]) rfl ?_
        exact k2 c1 c2 c3
      · refine mW_iconst (v := 0) dL_law_1824 (by decide) ?_
        exact mW_zret (ty := .boolean) dL_law_1825 rfl (by first | rfl | decide) (k3 c1 c2 c3)
  · refine mW_iconst (v := 0) dL_law_1807 (by decide) ?_
    exact mW_zret (ty := .boolean) dL_law_1808 rfl (by first | rfl | decide) (k4 c1)
theorem u1531 : (Cond.codeWith ⟨"LineFollowerBenchLaw", "undo", "(LLineFollowerBench;[J)I"⟩ method_29_code 3 (some .int) [(0, 8, 11, 24)] : Cond) ∈ mTs := mTs_in 1531 (by decide +kernel) (by decide +kernel)
theorem u1529 : (Cond.methodLink "LineFollowerBenchLaw" 222 ⟨"LineFollowerBenchLaw", "undo", "(LLineFollowerBench;[J)I"⟩ : Cond) ∈ mTs := mTs_in 1529 (by decide +kernel) (by decide +kernel)
theorem u1530 : (Cond.static ⟨"LineFollowerBenchLaw", "undo", "(LLineFollowerBench;[J)I"⟩ : Cond) ∈ mTs := mTs_in 1530 (by decide +kernel) (by decide +kernel)
theorem l_L_222 : mLinkSH "LineFollowerBenchLaw" 222 2 mL_undo := ⟨⟨by decide, by decide, by decide +kernel⟩, u1531, u69, by decide, u1529, u1530⟩
set_option maxHeartbeats 4000000 in
set_option maxRecDepth 100000 in
theorem gL_law_1829 {G : mG} {nm : String} {kc ks : Nat} {w : mH} {Φ : mF} {a1 a2 a3 : Nat} {x4 : Int32}  (k1 : mCH G mL_undo 10 1 6 [.ref a1, .ref a3] w (mRi G (mL_law nm) 11 kc ks 1834 [(0, .ref (G.2.2.2 5)), (1, .ref a1), (2, .ref a2), (3, .ref a3), (4, .int x4)] [] Φ)) : mW G (mL_law nm) 11 (kc + 1) (ks + 6) 1829 [(0, .ref (G.2.2.2 5)), (1, .ref a1), (2, .ref a2), (3, .ref a3), (4, .int x4)] [] w Φ := by
  refine mW_aload_n (j := 1) dL_law_1829 rfl rfl ?_
  refine mW_aload_n (j := 3) dL_law_1830 rfl rfl ?_
  refine mW_callSH (As := [.ref a1, .ref a3]) (rest := []) (kc2 := kc) (ks2 := ks) dL_law_1831 l_L_222 rfl (k1) (Nat.le_of_ble_eq_true rfl) (by decide) (Nat.add_comm _ _) (Nat.add_comm _ _) mRix mRik
theorem u1977 : (Cond.code ⟨"LineFollowerBenchModel", "undo", "()I"⟩ prog_13_method_69_code 1 (some .int) : Cond) ∈ mTs := mTs_in 1977 (by decide +kernel) (by decide +kernel)
theorem co_X11_undo : mCode mX11_undo := ⟨u1977, u85, by decide⟩
theorem u1974 : (Cond.methodLink "LineFollowerBenchLaw" 224 ⟨"LineFollowerBenchModel", "undo", "()I"⟩ : Cond) ∈ mTs := mTs_in 1974 (by decide +kernel) (by decide +kernel)
theorem u1975 : (Cond.instanceMethod ⟨"LineFollowerBenchModel", "undo", "()I"⟩ : Cond) ∈ mTs := mTs_in 1975 (by decide +kernel) (by decide +kernel)
theorem u1976 : (Cond.selects "LineFollowerBenchModel" ⟨"LineFollowerBenchModel", "undo", "()I"⟩ ⟨"LineFollowerBenchModel", "undo", "()I"⟩ : Cond) ∈ mTs := mTs_in 1976 (by decide +kernel) (by decide +kernel)
theorem l_L_224 : mLinkV "LineFollowerBenchLaw" 224 0 mX11_undo := ⟨⟨by decide, by decide, by decide +kernel⟩, co_X11_undo, u1974, u1975, u1976⟩
set_option maxHeartbeats 4000000 in
set_option maxRecDepth 100000 in
theorem gL_law_1834 {G : mG} {nm : String} {kc ks : Nat} {w : mH} {Φ : mF} {a1 a2 a3 : Nat} {x4 x_0 : Int32} (h1 : hk w a2 = (11, 0)) (k1 : mC G mX11_undo 4 0 0 [.ref a2] w (mRi G (mL_law nm) 11 kc ks 1840 [(5, .int x_0), (0, .ref (G.2.2.2 5)), (1, .ref a1), (2, .ref a2), (3, .ref a3), (4, .int x4)] [] Φ)) : mW G (mL_law nm) 11 kc ks 1834 [(0, .ref (G.2.2.2 5)), (1, .ref a1), (2, .ref a2), (3, .ref a3), (4, .int x4)] [.int x_0] w Φ := by
  refine mW_istore (lv2 := [(5, .int x_0), (0, .ref (G.2.2.2 5)), (1, .ref a1), (2, .ref a2), (3, .ref a3), (4, .int x4)]) dL_law_1834 (Nat.le_of_ble_eq_true rfl) rfl ?_
  refine mW_aload_n (j := 3) dL_law_1836 rfl rfl ?_
  refine mW_callV (As := []) (rest := []) (kc2 := kc) (ks2 := ks) dL_law_1837 l_L_224 rfl h1 rfl (by decide) (k1) (Nat.le_of_ble_eq_true rfl) (by decide) (Nat.zero_add _) (Nat.zero_add _) mRix mRik
set_option maxHeartbeats 4000000 in
set_option maxRecDepth 100000 in
theorem gL_law_1840 {G : mG} {nm : String} {kc ks : Nat} {w : mH} {Φ : mF} {a1 a2 a3 : Nat} {x4 x5 x_0 : Int32} {n_a3 : Nat} (h1 : hk w a2 = (11, 0)) (h2 : hk w a3 = (17, n_a3)) (s1 : vp_in 0 n_a3) (k1 : ((hfi w a2 0) = x5) → (¬ (x5 = 0)) → mW G (mL_law nm) 11 kc ks 1930 [(0, .ref (G.2.2.2 5)), (1, .ref a1), (2, .ref a2), (3, .ref a3), (4, .int x4)] [] w Φ) (k2 : ((hfi w a2 0) = x5) → (x5 = 0) → ((lg_cmp (hal w a3 0) x_0.toInt64) = 0) → mW G (mL_law nm) 11 kc ks 1930 [(0, .ref (G.2.2.2 5)), (1, .ref a1), (2, .ref a2), (3, .ref a3), (4, .int x4)] [] w Φ) (k3 : ((hfi w a2 0) = x5) → (x5 = 0) → (¬ ((lg_cmp (hal w a3 0) x_0.toInt64) = 0)) → Φ (.inl (some (.int 0))) w) (k4 : (¬ ((hfi w a2 0) = x5)) → Φ (.inl (some (.int 0))) w) : mW G (mL_law nm) 11 kc ks 1840 [(0, .ref (G.2.2.2 5)), (1, .ref a1), (2, .ref a2), (3, .ref a3), (4, .int x4), (5, .int x5)] [.int x_0] w Φ := by
  refine mW_istore (lv2 := [(6, .int x_0), (0, .ref (G.2.2.2 5)), (1, .ref a1), (2, .ref a2), (3, .ref a3), (4, .int x4), (5, .int x5)]) dL_law_1840 (Nat.le_of_ble_eq_true rfl) rfl ?_
  refine mW_aload_n (j := 3) dL_law_1842 rfl rfl ?_
  refine mW_callVe (As := []) (rest := []) (kc2 := kc) (ks2 := ks) dL_law_1843 l_L_120 rfl h1 rfl (by decide) (qX11_thrown (w := w) (a0 := a2) h1) (Nat.le_of_ble_eq_true rfl) (by decide) (Nat.zero_add _) (Nat.zero_add _) ?_
  refine mW_iload (j := 6) dL_law_1846 rfl ?_
  refine mW_icmp_eq (tgt := 1853) dL_law_1848 (by decide) (fun c1 => ?_) (fun c1 => ?_)
  · refine mW_iload (j := 6) dL_law_1853 rfl ?_
    refine mW_if_ne (tgt := 1870) dL_law_1855 (by decide) (fun c2 => ?_) (fun c2 => ?_)
    · refine mW_goto (tgt := 1930) dL_law_1870 (by decide) ?_
      refine mW_loc [1, 2, 3, 4, 5] (lv2 := [(0, .ref (G.2.2.2 5)), (1, .ref a1), (2, .ref a2), (3, .ref a3), (4, .int x4)]) rfl ?_
      exact k1 c1 c2
    · refine mW_aload_n (j := 4) dL_law_1858 rfl rfl ?_
      refine mW_iconst (v := 0) dL_law_1859 (by decide) ?_
      refine mW_laldJ dL_law_1860 h2 s1 (j := 0) (by decide) ?_
      refine mW_iload (j := 0) dL_law_1861 rfl ?_
      refine mW_i2l dL_law_1863 ?_
      refine mW_lcmp dL_law_1864 ?_
      refine mW_if_eq (tgt := 1870) dL_law_1865 (by decide) (fun c3 => ?_) (fun c3 => ?_)
      · refine mW_goto (tgt := 1930) dL_law_1870 (by decide) ?_
        refine mW_loc [1, 2, 3, 4, 5] (lv2 := [(0, .ref (G.2.2.2 5)), (1, .ref a1), (2, .ref a2), (3, .ref a3), (4, .int x4)]) rfl ?_
        exact k2 c1 c2 c3
      · refine mW_iconst (v := 0) dL_law_1868 (by decide) ?_
        exact mW_zret (ty := .boolean) dL_law_1869 rfl (by first | rfl | decide) (k3 c1 c2 c3)
  · refine mW_iconst (v := 0) dL_law_1851 (by decide) ?_
    exact mW_zret (ty := .boolean) dL_law_1852 rfl (by first | rfl | decide) (k4 c1)
theorem u690 : (Cond.code ⟨"LineFollowerBench", "save", "()I"⟩ prog_1_method_33_code 1 (some .int) : Cond) ∈ mTs := mTs_in 690 (by decide +kernel) (by decide +kernel)
theorem co_X10_save : mCode mX10_save := ⟨u690, u70, by decide⟩
theorem u687 : (Cond.methodLink "LineFollowerBenchLaw" 225 ⟨"LineFollowerBench", "save", "()I"⟩ : Cond) ∈ mTs := mTs_in 687 (by decide +kernel) (by decide +kernel)
theorem u688 : (Cond.instanceMethod ⟨"LineFollowerBench", "save", "()I"⟩ : Cond) ∈ mTs := mTs_in 688 (by decide +kernel) (by decide +kernel)
theorem u689 : (Cond.selects "LineFollowerBench" ⟨"LineFollowerBench", "save", "()I"⟩ ⟨"LineFollowerBench", "save", "()I"⟩ : Cond) ∈ mTs := mTs_in 689 (by decide +kernel) (by decide +kernel)
theorem l_L_225 : mLinkV "LineFollowerBenchLaw" 225 0 mX10_save := ⟨⟨by decide, by decide, by decide +kernel⟩, co_X10_save, u687, u688, u689⟩
set_option maxHeartbeats 4000000 in
set_option maxRecDepth 100000 in
theorem gL_law_1873 {G : mG} {nm : String} {kc ks : Nat} {w : mH} {Φ : mF} {a1 a2 a3 : Nat} {x4 : Int32} (h1 : hk w a1 = (10, 0)) (k1 : mC G mX10_save 9 0 0 [.ref a1] w (mRi G (mL_law nm) 11 kc ks 1877 [(0, .ref (G.2.2.2 5)), (1, .ref a1), (2, .ref a2), (3, .ref a3), (4, .int x4)] [] Φ)) : mW G (mL_law nm) 11 kc ks 1873 [(0, .ref (G.2.2.2 5)), (1, .ref a1), (2, .ref a2), (3, .ref a3), (4, .int x4)] [] w Φ := by
  refine mW_aload_n (j := 1) dL_law_1873 rfl rfl ?_
  refine mW_callV (As := []) (rest := []) (kc2 := kc) (ks2 := ks) dL_law_1874 l_L_225 rfl h1 rfl (by decide) (k1) (Nat.le_of_ble_eq_true rfl) (by decide) (Nat.zero_add _) (Nat.zero_add _) mRix mRik
theorem u1981 : (Cond.code ⟨"LineFollowerBenchModel", "save", "()I"⟩ prog_13_method_70_code 1 (some .int) : Cond) ∈ mTs := mTs_in 1981 (by decide +kernel) (by decide +kernel)
theorem co_X11_save : mCode mX11_save := ⟨u1981, u85, by decide⟩
theorem u1978 : (Cond.methodLink "LineFollowerBenchLaw" 228 ⟨"LineFollowerBenchModel", "save", "()I"⟩ : Cond) ∈ mTs := mTs_in 1978 (by decide +kernel) (by decide +kernel)
theorem u1979 : (Cond.instanceMethod ⟨"LineFollowerBenchModel", "save", "()I"⟩ : Cond) ∈ mTs := mTs_in 1979 (by decide +kernel) (by decide +kernel)
theorem u1980 : (Cond.selects "LineFollowerBenchModel" ⟨"LineFollowerBenchModel", "save", "()I"⟩ ⟨"LineFollowerBenchModel", "save", "()I"⟩ : Cond) ∈ mTs := mTs_in 1980 (by decide +kernel) (by decide +kernel)
theorem l_L_228 : mLinkV "LineFollowerBenchLaw" 228 0 mX11_save := ⟨⟨by decide, by decide, by decide +kernel⟩, co_X11_save, u1978, u1979, u1980⟩
set_option maxHeartbeats 4000000 in
set_option maxRecDepth 100000 in
theorem gL_law_1877 {G : mG} {nm : String} {kc ks : Nat} {w : mH} {Φ : mF} {a1 a2 a3 : Nat} {x4 x_0 : Int32} (h1 : hk w a2 = (11, 0)) (k1 : mC G mX11_save 4 0 0 [.ref a2] w (mRi G (mL_law nm) 11 kc ks 1881 [(0, .ref (G.2.2.2 5)), (1, .ref a1), (2, .ref a2), (3, .ref a3), (4, .int x4)] [.int x_0] Φ)) : mW G (mL_law nm) 11 kc ks 1877 [(0, .ref (G.2.2.2 5)), (1, .ref a1), (2, .ref a2), (3, .ref a3), (4, .int x4)] [.int x_0] w Φ := by
  refine mW_aload_n (j := 2) dL_law_1877 rfl rfl ?_
  refine mW_callV (As := []) (rest := [.int x_0]) (kc2 := kc) (ks2 := ks) dL_law_1878 l_L_228 rfl h1 rfl (by decide) (k1) (Nat.le_of_ble_eq_true rfl) (by decide) (Nat.zero_add _) (Nat.zero_add _) mRix mRik
set_option maxHeartbeats 4000000 in
set_option maxRecDepth 100000 in
theorem gL_law_1881 {G : mG} {nm : String} {kc ks : Nat} {w : mH} {Φ : mF} {a1 a2 a3 : Nat} {x4 x_0 x_1 : Int32}  (k1 : (x_1 = x_0) → mW G (mL_law nm) 11 kc ks 1930 [(0, .ref (G.2.2.2 5)), (1, .ref a1), (2, .ref a2), (3, .ref a3), (4, .int x4)] [] w Φ) (k2 : (¬ (x_1 = x_0)) → Φ (.inl (some (.int 0))) w) : mW G (mL_law nm) 11 kc ks 1881 [(0, .ref (G.2.2.2 5)), (1, .ref a1), (2, .ref a2), (3, .ref a3), (4, .int x4)] [.int x_0, .int x_1] w Φ := by
  refine mW_icmp_eq (tgt := 1930) dL_law_1881 (by decide) (fun c1 => ?_) (fun c1 => ?_)
  · exact k1 c1
  · refine mW_iconst (v := 0) dL_law_1884 (by decide) ?_
    exact mW_zret (ty := .boolean) dL_law_1885 rfl (by first | rfl | decide) (k2 c1)
theorem u1543 : (Cond.codeWith ⟨"LineFollowerBenchLaw", "restore", "(LLineFollowerBench;[J)I"⟩ method_30_code 3 (some .int) [(0, 8, 11, 24)] : Cond) ∈ mTs := mTs_in 1543 (by decide +kernel) (by decide +kernel)
theorem u1541 : (Cond.methodLink "LineFollowerBenchLaw" 229 ⟨"LineFollowerBenchLaw", "restore", "(LLineFollowerBench;[J)I"⟩ : Cond) ∈ mTs := mTs_in 1541 (by decide +kernel) (by decide +kernel)
theorem u1542 : (Cond.static ⟨"LineFollowerBenchLaw", "restore", "(LLineFollowerBench;[J)I"⟩ : Cond) ∈ mTs := mTs_in 1542 (by decide +kernel) (by decide +kernel)
theorem l_L_229 : mLinkSH "LineFollowerBenchLaw" 229 2 mL_restore := ⟨⟨by decide, by decide, by decide +kernel⟩, u1543, u69, by decide, u1541, u1542⟩
set_option maxHeartbeats 4000000 in
set_option maxRecDepth 100000 in
theorem gL_law_1886 {G : mG} {nm : String} {kc ks : Nat} {w : mH} {Φ : mF} {a1 a2 a3 : Nat} {x4 : Int32}  (k1 : mCH G mL_restore 10 1 6 [.ref a1, .ref a3] w (mRi G (mL_law nm) 11 kc ks 1891 [(0, .ref (G.2.2.2 5)), (1, .ref a1), (2, .ref a2), (3, .ref a3), (4, .int x4)] [] Φ)) : mW G (mL_law nm) 11 (kc + 1) (ks + 6) 1886 [(0, .ref (G.2.2.2 5)), (1, .ref a1), (2, .ref a2), (3, .ref a3), (4, .int x4)] [] w Φ := by
  refine mW_aload_n (j := 1) dL_law_1886 rfl rfl ?_
  refine mW_aload_n (j := 3) dL_law_1887 rfl rfl ?_
  refine mW_callSH (As := [.ref a1, .ref a3]) (rest := []) (kc2 := kc) (ks2 := ks) dL_law_1888 l_L_229 rfl (k1) (Nat.le_of_ble_eq_true rfl) (by decide) (Nat.add_comm _ _) (Nat.add_comm _ _) mRix mRik
theorem u1985 : (Cond.code ⟨"LineFollowerBenchModel", "restore", "()I"⟩ prog_13_method_71_code 1 (some .int) : Cond) ∈ mTs := mTs_in 1985 (by decide +kernel) (by decide +kernel)
theorem co_X11_restore : mCode mX11_restore := ⟨u1985, u85, by decide⟩
theorem u1982 : (Cond.methodLink "LineFollowerBenchLaw" 231 ⟨"LineFollowerBenchModel", "restore", "()I"⟩ : Cond) ∈ mTs := mTs_in 1982 (by decide +kernel) (by decide +kernel)
theorem u1983 : (Cond.instanceMethod ⟨"LineFollowerBenchModel", "restore", "()I"⟩ : Cond) ∈ mTs := mTs_in 1983 (by decide +kernel) (by decide +kernel)
theorem u1984 : (Cond.selects "LineFollowerBenchModel" ⟨"LineFollowerBenchModel", "restore", "()I"⟩ ⟨"LineFollowerBenchModel", "restore", "()I"⟩ : Cond) ∈ mTs := mTs_in 1984 (by decide +kernel) (by decide +kernel)
theorem l_L_231 : mLinkV "LineFollowerBenchLaw" 231 0 mX11_restore := ⟨⟨by decide, by decide, by decide +kernel⟩, co_X11_restore, u1982, u1983, u1984⟩
set_option maxHeartbeats 4000000 in
set_option maxRecDepth 100000 in
theorem gL_law_1891 {G : mG} {nm : String} {kc ks : Nat} {w : mH} {Φ : mF} {a1 a2 a3 : Nat} {x4 x_0 : Int32} (h1 : hk w a2 = (11, 0)) (k1 : mC G mX11_restore 4 0 0 [.ref a2] w (mRi G (mL_law nm) 11 kc ks 1897 [(5, .int x_0), (0, .ref (G.2.2.2 5)), (1, .ref a1), (2, .ref a2), (3, .ref a3), (4, .int x4)] [] Φ)) : mW G (mL_law nm) 11 kc ks 1891 [(0, .ref (G.2.2.2 5)), (1, .ref a1), (2, .ref a2), (3, .ref a3), (4, .int x4)] [.int x_0] w Φ := by
  refine mW_istore (lv2 := [(5, .int x_0), (0, .ref (G.2.2.2 5)), (1, .ref a1), (2, .ref a2), (3, .ref a3), (4, .int x4)]) dL_law_1891 (Nat.le_of_ble_eq_true rfl) rfl ?_
  refine mW_aload_n (j := 3) dL_law_1893 rfl rfl ?_
  refine mW_callV (As := []) (rest := []) (kc2 := kc) (ks2 := ks) dL_law_1894 l_L_231 rfl h1 rfl (by decide) (k1) (Nat.le_of_ble_eq_true rfl) (by decide) (Nat.zero_add _) (Nat.zero_add _) mRix mRik
set_option maxHeartbeats 4000000 in
set_option maxRecDepth 100000 in
theorem gL_law_1897 {G : mG} {nm : String} {kc ks : Nat} {w : mH} {Φ : mF} {a1 a2 a3 : Nat} {x4 x5 x_0 : Int32} {n_a3 : Nat} (h1 : hk w a2 = (11, 0)) (h2 : hk w a3 = (17, n_a3)) (s1 : vp_in 0 n_a3) (k1 : ((hfi w a2 0) = x5) → (¬ (x5 = 0)) → mW G (mL_law nm) 11 kc ks 1930 [(0, .ref (G.2.2.2 5)), (1, .ref a1), (2, .ref a2), (3, .ref a3), (4, .int x4)] [] w Φ) (k2 : ((hfi w a2 0) = x5) → (x5 = 0) → ((lg_cmp (hal w a3 0) x_0.toInt64) = 0) → mW G (mL_law nm) 11 kc ks 1930 [(0, .ref (G.2.2.2 5)), (1, .ref a1), (2, .ref a2), (3, .ref a3), (4, .int x4)] [] w Φ) (k3 : ((hfi w a2 0) = x5) → (x5 = 0) → (¬ ((lg_cmp (hal w a3 0) x_0.toInt64) = 0)) → Φ (.inl (some (.int 0))) w) (k4 : (¬ ((hfi w a2 0) = x5)) → Φ (.inl (some (.int 0))) w) : mW G (mL_law nm) 11 kc ks 1897 [(0, .ref (G.2.2.2 5)), (1, .ref a1), (2, .ref a2), (3, .ref a3), (4, .int x4), (5, .int x5)] [.int x_0] w Φ := by
  refine mW_istore (lv2 := [(6, .int x_0), (0, .ref (G.2.2.2 5)), (1, .ref a1), (2, .ref a2), (3, .ref a3), (4, .int x4), (5, .int x5)]) dL_law_1897 (Nat.le_of_ble_eq_true rfl) rfl ?_
  refine mW_aload_n (j := 3) dL_law_1899 rfl rfl ?_
  refine mW_callVe (As := []) (rest := []) (kc2 := kc) (ks2 := ks) dL_law_1900 l_L_120 rfl h1 rfl (by decide) (qX11_thrown (w := w) (a0 := a2) h1) (Nat.le_of_ble_eq_true rfl) (by decide) (Nat.zero_add _) (Nat.zero_add _) ?_
  refine mW_iload (j := 6) dL_law_1903 rfl ?_
  refine mW_icmp_eq (tgt := 1910) dL_law_1905 (by decide) (fun c1 => ?_) (fun c1 => ?_)
  · refine mW_iload (j := 6) dL_law_1910 rfl ?_
    refine mW_if_ne (tgt := 1927) dL_law_1912 (by decide) (fun c2 => ?_) (fun c2 => ?_)
    · refine mW_goto (tgt := 1930) dL_law_1927 (by decide) ?_
      refine mW_loc [1, 2, 3, 4, 5] (lv2 := [(0, .ref (G.2.2.2 5)), (1, .ref a1), (2, .ref a2), (3, .ref a3), (4, .int x4)]) rfl ?_
      exact k1 c1 c2
    · refine mW_aload_n (j := 4) dL_law_1915 rfl rfl ?_
      refine mW_iconst (v := 0) dL_law_1916 (by decide) ?_
      refine mW_laldJ dL_law_1917 h2 s1 (j := 0) (by decide) ?_
      refine mW_iload (j := 0) dL_law_1918 rfl ?_
      refine mW_i2l dL_law_1920 ?_
      refine mW_lcmp dL_law_1921 ?_
      refine mW_if_eq (tgt := 1927) dL_law_1922 (by decide) (fun c3 => ?_) (fun c3 => ?_)
      · refine mW_goto (tgt := 1930) dL_law_1927 (by decide) ?_
        refine mW_loc [1, 2, 3, 4, 5] (lv2 := [(0, .ref (G.2.2.2 5)), (1, .ref a1), (2, .ref a2), (3, .ref a3), (4, .int x4)]) rfl ?_
        exact k2 c1 c2 c3
      · refine mW_iconst (v := 0) dL_law_1925 (by decide) ?_
        exact mW_zret (ty := .boolean) dL_law_1926 rfl (by first | rfl | decide) (k3 c1 c2 c3)
  · refine mW_iconst (v := 0) dL_law_1908 (by decide) ?_
    exact mW_zret (ty := .boolean) dL_law_1909 rfl (by first | rfl | decide) (k4 c1)
theorem lg_self {x : Int64} : lg_cmp x x = 0 := by unfold lg_cmp; rw [if_neg (Int64.lt_irrefl), if_pos rfl]
theorem scr_k {i k L : Nat} (h : i + k < L) (hL : L ≤ 2560) : vp_in (nI i + nI k) L := by rw [nI_ad]; exact m_vp h (by omega)
theorem vp_01 : vp_in 0 1 := by unfold vp_in; decide
theorem lc_184 {G : mG} {nm : String} {a b i kc ks : Nat} {w : mH} {Φ : mF} (I : gI a b w) (hi : i + 5 ≤ G.2.2.2 6) (hL : G.2.2.2 6 ≤ 2560) (K : ∀ w', gI a b w' → mW G (mL_law nm) 11 kc ks 1930 [(0, .ref (G.2.2.2 5)), (1, .ref a), (2, .ref b), (3, .ref (b + 22)), (4, .int (nI i))] [] w' Φ) : mW G (mL_law nm) 11 (kc + 1) (ks + 6) 184 [(0, .ref (G.2.2.2 5)), (1, .ref a), (2, .ref b), (3, .ref (b + 22)), (4, .int (nI i))] [] w Φ := by
  refine gL_law_184 (kc := kc) (ks := ks) (scr_k (k := 1) (by omega) hL) (scr_k (k := 2) (by omega) hL) ?_
  refine mCH_mono (fun r u h => ?_) (K_set I)
  obtain ⟨t, rfl, hz, h⟩ := h
  refine ⟨t, rfl, ?_⟩
  refine gL_law_201 (kc := kc) (ks := ks) (scr_k (k := 1) (by omega) hL) (scr_k (k := 2) (by omega) hL) hz ?_
  refine mC_mono (fun r' u' h' => ?_) h
  obtain ⟨v, rfl, I', e0, e1⟩ := h'
  refine ⟨v, rfl, ?_⟩
  refine mW_loc [1, 2, 3, 4, 5, 0] (lv2 := [(0, _), (1, _), (2, _), (3, _), (4, _), (5, _)]) rfl ?_
  exact gL_law_219 (kc := kc) (ks := ks) (n_a3 := 1) I'.2.2.2.1.1 I'.2.2.2.2.1 vp_01 (fun _ _ => K u' I') (fun _ _ _ => K u' I') (fun _ c2 c3 => absurd (by rw [e1 c2]; exact lg_self) c3) (fun c => absurd e0 c)
theorem lc_252 {G : mG} {nm : String} {a b i kc ks : Nat} {w : mH} {Φ : mF} (I : gI a b w) (hi : i + 5 ≤ G.2.2.2 6) (hL : G.2.2.2 6 ≤ 2560) (K : ∀ w', gI a b w' → mW G (mL_law nm) 11 kc ks 1930 [(0, .ref (G.2.2.2 5)), (1, .ref a), (2, .ref b), (3, .ref (b + 22)), (4, .int (nI i))] [] w' Φ) : mW G (mL_law nm) 11 (kc + 1) (ks + 6) 252 [(0, .ref (G.2.2.2 5)), (1, .ref a), (2, .ref b), (3, .ref (b + 22)), (4, .int (nI i))] [] w Φ := by
  refine gL_law_252 (kc := kc) (ks := ks) (scr_k (k := 1) (by omega) hL) ?_
  refine mCH_mono (fun r u h => ?_) (K_setting I)
  obtain ⟨t, rfl, hz, h⟩ := h
  refine ⟨t, rfl, ?_⟩
  refine gL_law_263 (kc := kc) (ks := ks) (scr_k (k := 1) (by omega) hL) hz ?_
  refine mC_mono (fun r' u' h' => ?_) h
  obtain ⟨v, rfl, I', e0, e1⟩ := h'
  refine ⟨v, rfl, ?_⟩
  refine mW_loc [1, 2, 3, 4, 5, 0] (lv2 := [(0, _), (1, _), (2, _), (3, _), (4, _), (5, _)]) rfl ?_
  exact gL_law_275 (kc := kc) (ks := ks) (n_a3 := 1) I'.2.2.2.1.1 I'.2.2.2.2.1 vp_01 (fun _ _ => K u' I') (fun _ _ _ => K u' I') (fun _ c2 c3 => absurd (by rw [e1 c2]; exact lg_self) c3) (fun c => absurd e0 c)
theorem lc_308 {G : mG} {nm : String} {a b i kc ks : Nat} {w : mH} {Φ : mF} (I : gI a b w) (hi : i + 5 ≤ G.2.2.2 6) (hL : G.2.2.2 6 ≤ 2560) (K : ∀ w', gI a b w' → mW G (mL_law nm) 11 kc ks 1930 [(0, .ref (G.2.2.2 5)), (1, .ref a), (2, .ref b), (3, .ref (b + 22)), (4, .int (nI i))] [] w' Φ) : mW G (mL_law nm) 11 (kc + 1) (ks + 6) 308 [(0, .ref (G.2.2.2 5)), (1, .ref a), (2, .ref b), (3, .ref (b + 22)), (4, .int (nI i))] [] w Φ := by
  refine gL_law_308 (kc := kc) (ks := ks) (scr_k (k := 1) (by omega) hL) (scr_k (k := 2) (by omega) hL) ?_
  refine mCH_mono (fun r u h => ?_) (K_setPoint I)
  obtain ⟨t, rfl, hz, h⟩ := h
  refine ⟨t, rfl, ?_⟩
  refine gL_law_325 (kc := kc) (ks := ks) (scr_k (k := 1) (by omega) hL) (scr_k (k := 2) (by omega) hL) hz ?_
  refine mC_mono (fun r' u' h' => ?_) h
  obtain ⟨v, rfl, I', e0, e1⟩ := h'
  refine ⟨v, rfl, ?_⟩
  refine mW_loc [1, 2, 3, 4, 5, 0] (lv2 := [(0, _), (1, _), (2, _), (3, _), (4, _), (5, _)]) rfl ?_
  exact gL_law_343 (kc := kc) (ks := ks) (n_a3 := 1) I'.2.2.2.1.1 I'.2.2.2.2.1 vp_01 (fun _ _ => K u' I') (fun _ _ _ => K u' I') (fun _ c2 c3 => absurd (by rw [e1 c2]; exact lg_self) c3) (fun c => absurd e0 c)
theorem lc_376 {G : mG} {nm : String} {a b i kc ks : Nat} {w : mH} {Φ : mF} (I : gI a b w) (hi : i + 5 ≤ G.2.2.2 6) (hL : G.2.2.2 6 ≤ 2560) (K : ∀ w', gI a b w' → mW G (mL_law nm) 11 kc ks 1930 [(0, .ref (G.2.2.2 5)), (1, .ref a), (2, .ref b), (3, .ref (b + 22)), (4, .int (nI i))] [] w' Φ) : mW G (mL_law nm) 11 (kc + 1) (ks + 6) 376 [(0, .ref (G.2.2.2 5)), (1, .ref a), (2, .ref b), (3, .ref (b + 22)), (4, .int (nI i))] [] w Φ := by
  refine gL_law_376 (kc := kc) (ks := ks) (scr_k (k := 1) (by omega) hL) ?_
  refine mCH_mono (fun r u h => ?_) (K_removePoint I)
  obtain ⟨t, rfl, hz, h⟩ := h
  refine ⟨t, rfl, ?_⟩
  refine gL_law_387 (kc := kc) (ks := ks) (scr_k (k := 1) (by omega) hL) hz ?_
  refine mC_mono (fun r' u' h' => ?_) h
  obtain ⟨v, rfl, I', e0, e1⟩ := h'
  refine ⟨v, rfl, ?_⟩
  refine mW_loc [1, 2, 3, 4, 5, 0] (lv2 := [(0, _), (1, _), (2, _), (3, _), (4, _), (5, _)]) rfl ?_
  exact gL_law_399 (kc := kc) (ks := ks) (n_a3 := 1) I'.2.2.2.1.1 I'.2.2.2.2.1 vp_01 (fun _ _ => K u' I') (fun _ _ _ => K u' I') (fun _ c2 c3 => absurd (by rw [e1 c2]; exact lg_self) c3) (fun c => absurd e0 c)
theorem lc_432 {G : mG} {nm : String} {a b i kc ks : Nat} {w : mH} {Φ : mF} (I : gI a b w) (hi : i + 5 ≤ G.2.2.2 6) (hL : G.2.2.2 6 ≤ 2560) (K : ∀ w', gI a b w' → mW G (mL_law nm) 11 kc ks 1930 [(0, .ref (G.2.2.2 5)), (1, .ref a), (2, .ref b), (3, .ref (b + 22)), (4, .int (nI i))] [] w' Φ) : mW G (mL_law nm) 11 (kc + 1) (ks + 6) 432 [(0, .ref (G.2.2.2 5)), (1, .ref a), (2, .ref b), (3, .ref (b + 22)), (4, .int (nI i))] [] w Φ := by
  refine gL_law_432 (kc := kc) (ks := ks) (scr_k (k := 1) (by omega) hL) (scr_k (k := 2) (by omega) hL) ?_
  refine mCH_mono (fun r u h => ?_) (K_point I)
  obtain ⟨t, rfl, hz, h⟩ := h
  refine ⟨t, rfl, ?_⟩
  refine gL_law_449 (kc := kc) (ks := ks) (scr_k (k := 1) (by omega) hL) (scr_k (k := 2) (by omega) hL) hz ?_
  refine mC_mono (fun r' u' h' => ?_) h
  obtain ⟨v, rfl, I', e0, e1⟩ := h'
  refine ⟨v, rfl, ?_⟩
  refine mW_loc [1, 2, 3, 4, 5, 0] (lv2 := [(0, _), (1, _), (2, _), (3, _), (4, _), (5, _)]) rfl ?_
  exact gL_law_467 (kc := kc) (ks := ks) (n_a3 := 1) I'.2.2.2.1.1 I'.2.2.2.2.1 vp_01 (fun _ _ => K u' I') (fun _ _ _ => K u' I') (fun _ c2 c3 => absurd (by rw [e1 c2]; exact lg_self) c3) (fun c => absurd e0 c)
theorem lc_500 {G : mG} {nm : String} {a b i kc ks : Nat} {w : mH} {Φ : mF} (I : gI a b w) (hi : i + 5 ≤ G.2.2.2 6) (hL : G.2.2.2 6 ≤ 2560) (K : ∀ w', gI a b w' → mW G (mL_law nm) 11 kc ks 1930 [(0, .ref (G.2.2.2 5)), (1, .ref a), (2, .ref b), (3, .ref (b + 22)), (4, .int (nI i))] [] w' Φ) : mW G (mL_law nm) 11 (kc + 1) (ks + 6) 500 [(0, .ref (G.2.2.2 5)), (1, .ref a), (2, .ref b), (3, .ref (b + 22)), (4, .int (nI i))] [] w Φ := by
  refine gL_law_500 (kc := kc) (ks := ks) (scr_k (k := 1) (by omega) hL) ?_
  refine mCH_mono (fun r u h => ?_) (K_table I)
  obtain ⟨t, rfl, hz, h⟩ := h
  refine ⟨t, rfl, ?_⟩
  refine gL_law_511 (kc := kc) (ks := ks) (scr_k (k := 1) (by omega) hL) hz ?_
  refine mC_mono (fun r' u' h' => ?_) h
  obtain ⟨v, rfl, I', e0, e1⟩ := h'
  refine ⟨v, rfl, ?_⟩
  refine mW_loc [1, 2, 3, 4, 5, 0] (lv2 := [(0, _), (1, _), (2, _), (3, _), (4, _), (5, _)]) rfl ?_
  exact gL_law_523 (kc := kc) (ks := ks) (n_a3 := 1) I'.2.2.2.1.1 I'.2.2.2.2.1 vp_01 (fun _ _ => K u' I') (fun _ _ _ => K u' I') (fun _ c2 c3 => absurd (by rw [e1 c2]; exact lg_self) c3) (fun c => absurd e0 c)
theorem lc_556 {G : mG} {nm : String} {a b i kc ks : Nat} {w : mH} {Φ : mF} (I : gI a b w) (hi : i + 5 ≤ G.2.2.2 6) (hL : G.2.2.2 6 ≤ 2560) (K : ∀ w', gI a b w' → mW G (mL_law nm) 11 kc ks 1930 [(0, .ref (G.2.2.2 5)), (1, .ref a), (2, .ref b), (3, .ref (b + 22)), (4, .int (nI i))] [] w' Φ) : mW G (mL_law nm) 11 (kc + 1) (ks + 6) 556 [(0, .ref (G.2.2.2 5)), (1, .ref a), (2, .ref b), (3, .ref (b + 22)), (4, .int (nI i))] [] w Φ := by
  refine gL_law_556 (kc := kc) (ks := ks) (scr_k (k := 1) (by omega) hL) (scr_k (k := 2) (by omega) hL) ?_
  refine mCH_mono (fun r u h => ?_) (K_setWeight I)
  obtain ⟨t, rfl, hz, h⟩ := h
  refine ⟨t, rfl, ?_⟩
  refine gL_law_573 (kc := kc) (ks := ks) (scr_k (k := 1) (by omega) hL) (scr_k (k := 2) (by omega) hL) hz ?_
  refine mC_mono (fun r' u' h' => ?_) h
  obtain ⟨v, rfl, I', e0, e1⟩ := h'
  refine ⟨v, rfl, ?_⟩
  refine mW_loc [1, 2, 3, 4, 5, 0] (lv2 := [(0, _), (1, _), (2, _), (3, _), (4, _), (5, _)]) rfl ?_
  exact gL_law_591 (kc := kc) (ks := ks) (n_a3 := 1) I'.2.2.2.1.1 I'.2.2.2.2.1 vp_01 (fun _ _ => K u' I') (fun _ _ _ => K u' I') (fun _ c2 c3 => absurd (by rw [e1 c2]; exact lg_self) c3) (fun c => absurd e0 c)
theorem lc_624 {G : mG} {nm : String} {a b i kc ks : Nat} {w : mH} {Φ : mF} (I : gI a b w) (hi : i + 5 ≤ G.2.2.2 6) (hL : G.2.2.2 6 ≤ 2560) (K : ∀ w', gI a b w' → mW G (mL_law nm) 11 kc ks 1930 [(0, .ref (G.2.2.2 5)), (1, .ref a), (2, .ref b), (3, .ref (b + 22)), (4, .int (nI i))] [] w' Φ) : mW G (mL_law nm) 11 (kc + 1) (ks + 6) 624 [(0, .ref (G.2.2.2 5)), (1, .ref a), (2, .ref b), (3, .ref (b + 22)), (4, .int (nI i))] [] w Φ := by
  refine gL_law_624 (kc := kc) (ks := ks) (scr_k (k := 1) (by omega) hL) (scr_k (k := 2) (by omega) hL) (scr_k (k := 3) (by omega) hL) (scr_k (k := 4) (by omega) hL) ?_
  refine mCH_mono (fun r u h => ?_) (K_setGrid I)
  obtain ⟨t, rfl, hz, h⟩ := h
  refine ⟨t, rfl, ?_⟩
  refine gL_law_653 (kc := kc) (ks := ks) (scr_k (k := 1) (by omega) hL) (scr_k (k := 2) (by omega) hL) (scr_k (k := 3) (by omega) hL) (scr_k (k := 4) (by omega) hL) hz ?_
  refine mC_mono (fun r' u' h' => ?_) h
  obtain ⟨v, rfl, I', e0, e1⟩ := h'
  refine ⟨v, rfl, ?_⟩
  refine mW_loc [1, 2, 3, 4, 5, 0] (lv2 := [(0, _), (1, _), (2, _), (3, _), (4, _), (5, _)]) rfl ?_
  exact gL_law_683 (kc := kc) (ks := ks) (n_a3 := 1) I'.2.2.2.1.1 I'.2.2.2.2.1 vp_01 (fun _ _ => K u' I') (fun _ _ _ => K u' I') (fun _ c2 c3 => absurd (by rw [e1 c2]; exact lg_self) c3) (fun c => absurd e0 c)
theorem lc_716 {G : mG} {nm : String} {a b i kc ks : Nat} {w : mH} {Φ : mF} (I : gI a b w) (hi : i + 5 ≤ G.2.2.2 6) (hL : G.2.2.2 6 ≤ 2560) (K : ∀ w', gI a b w' → mW G (mL_law nm) 11 kc ks 1930 [(0, .ref (G.2.2.2 5)), (1, .ref a), (2, .ref b), (3, .ref (b + 22)), (4, .int (nI i))] [] w' Φ) : mW G (mL_law nm) 11 (kc + 1) (ks + 6) 716 [(0, .ref (G.2.2.2 5)), (1, .ref a), (2, .ref b), (3, .ref (b + 22)), (4, .int (nI i))] [] w Φ := by
  refine gL_law_716 (kc := kc) (ks := ks) (scr_k (k := 1) (by omega) hL) ?_
  refine mCH_mono (fun r u h => ?_) (K_append I)
  obtain ⟨t, rfl, hz, h⟩ := h
  refine ⟨t, rfl, ?_⟩
  refine gL_law_727 (kc := kc) (ks := ks) (scr_k (k := 1) (by omega) hL) hz ?_
  refine mC_mono (fun r' u' h' => ?_) h
  obtain ⟨v, rfl, I', e0, e1⟩ := h'
  refine ⟨v, rfl, ?_⟩
  refine mW_loc [1, 2, 3, 4, 5, 0] (lv2 := [(0, _), (1, _), (2, _), (3, _), (4, _), (5, _)]) rfl ?_
  exact gL_law_739 (kc := kc) (ks := ks) (n_a3 := 1) I'.2.2.2.1.1 I'.2.2.2.2.1 vp_01 (fun _ _ => K u' I') (fun _ _ _ => K u' I') (fun _ c2 c3 => absurd (by rw [e1 c2]; exact lg_self) c3) (fun c => absurd e0 c)
theorem lc_772 {G : mG} {nm : String} {a b i kc ks : Nat} {w : mH} {Φ : mF} (I : gI a b w) (hi : i + 5 ≤ G.2.2.2 6) (hL : G.2.2.2 6 ≤ 2560) (K : ∀ w', gI a b w' → mW G (mL_law nm) 11 kc ks 1930 [(0, .ref (G.2.2.2 5)), (1, .ref a), (2, .ref b), (3, .ref (b + 22)), (4, .int (nI i))] [] w' Φ) : mW G (mL_law nm) 11 (kc + 1) (ks + 6) 772 [(0, .ref (G.2.2.2 5)), (1, .ref a), (2, .ref b), (3, .ref (b + 22)), (4, .int (nI i))] [] w Φ := by
  refine gL_law_772 (kc := kc) (ks := ks)  ?_
  refine mCH_mono (fun r u h => ?_) (K_load I)
  obtain ⟨t, rfl, hz, h⟩ := h
  refine ⟨t, rfl, ?_⟩
  refine gL_law_777 (kc := kc) (ks := ks) hz ?_
  refine mC_mono (fun r' u' h' => ?_) h
  obtain ⟨v, rfl, I', e0, e1⟩ := h'
  refine ⟨v, rfl, ?_⟩
  refine mW_loc [1, 2, 3, 4, 5, 0] (lv2 := [(0, _), (1, _), (2, _), (3, _), (4, _), (5, _)]) rfl ?_
  exact gL_law_783 (kc := kc) (ks := ks) (n_a3 := 1) I'.2.2.2.1.1 I'.2.2.2.2.1 vp_01 (fun _ _ => K u' I') (fun _ _ _ => K u' I') (fun _ c2 c3 => absurd (by rw [e1 c2]; exact lg_self) c3) (fun c => absurd e0 c)
theorem lc_816 {G : mG} {nm : String} {a b i kc ks : Nat} {w : mH} {Φ : mF} (I : gI a b w) (hi : i + 5 ≤ G.2.2.2 6) (hL : G.2.2.2 6 ≤ 2560) (K : ∀ w', gI a b w' → mW G (mL_law nm) 11 kc ks 1930 [(0, .ref (G.2.2.2 5)), (1, .ref a), (2, .ref b), (3, .ref (b + 22)), (4, .int (nI i))] [] w' Φ) : mW G (mL_law nm) 11 kc ks 816 [(0, .ref (G.2.2.2 5)), (1, .ref a), (2, .ref b), (3, .ref (b + 22)), (4, .int (nI i))] [] w Φ := by
  refine gL_law_816 (kc := kc) (ks := ks) I.2.2.1.1 ?_
  refine mC_mono (fun r u h => ?_) (K_errorPosition I)
  obtain ⟨v, rfl, hz, h⟩ := h
  refine ⟨v, rfl, ?_⟩
  refine gL_law_820 (kc := kc) (ks := ks) hz ?_
  refine mC_mono (fun r' u' h' => ?_) h
  obtain ⟨rfl, I'⟩ := h'
  refine ⟨v, rfl, ?_⟩
  exact gL_law_824 (kc := kc) (ks := ks) (fun _ => K u' I') (fun c => absurd rfl c)
theorem lc_829 {G : mG} {nm : String} {a b i kc ks : Nat} {w : mH} {Φ : mF} (I : gI a b w) (hi : i + 5 ≤ G.2.2.2 6) (hL : G.2.2.2 6 ≤ 2560) (K : ∀ w', gI a b w' → mW G (mL_law nm) 11 kc ks 1930 [(0, .ref (G.2.2.2 5)), (1, .ref a), (2, .ref b), (3, .ref (b + 22)), (4, .int (nI i))] [] w' Φ) : mW G (mL_law nm) 11 (kc + 84) (ks + 11792) 829 [(0, .ref (G.2.2.2 5)), (1, .ref a), (2, .ref b), (3, .ref (b + 22)), (4, .int (nI i))] [] w Φ := by
  refine gL_law_829 (kc := kc) (ks := ks) (scr_k (k := 1) (by omega) hL) ?_
  refine mCH_mono (fun r u h => ?_) (K_describe I)
  obtain ⟨t, rfl, hz, h⟩ := h
  refine ⟨t, rfl, ?_⟩
  refine gL_law_840 (kc := kc) (ks := ks) (scr_k (k := 1) (by omega) hL) hz ?_
  refine mC_mono (fun r' u' h' => ?_) h
  obtain ⟨v, rfl, I', e0, e1⟩ := h'
  refine ⟨v, rfl, ?_⟩
  refine mW_loc [1, 2, 3, 4, 5, 0] (lv2 := [(0, _), (1, _), (2, _), (3, _), (4, _), (5, _)]) rfl ?_
  exact gL_law_852 (kc := kc) (ks := ks) (n_a3 := 1) I'.2.2.2.1.1 I'.2.2.2.2.1 vp_01 (fun _ _ => K u' I') (fun _ _ _ => K u' I') (fun _ c2 c3 => absurd (by rw [e1 c2]; exact lg_self) c3) (fun c => absurd e0 c)
theorem lc_885 {G : mG} {nm : String} {a b i kc ks : Nat} {w : mH} {Φ : mF} (I : gI a b w) (hi : i + 5 ≤ G.2.2.2 6) (hL : G.2.2.2 6 ≤ 2560) (K : ∀ w', gI a b w' → mW G (mL_law nm) 11 kc ks 1930 [(0, .ref (G.2.2.2 5)), (1, .ref a), (2, .ref b), (3, .ref (b + 22)), (4, .int (nI i))] [] w' Φ) : mW G (mL_law nm) 11 (kc + 1) (ks + 6) 885 [(0, .ref (G.2.2.2 5)), (1, .ref a), (2, .ref b), (3, .ref (b + 22)), (4, .int (nI i))] [] w Φ := by
  refine gL_law_885 (kc := kc) (ks := ks) (scr_k (k := 1) (by omega) hL) ?_
  refine mCH_mono (fun r u h => ?_) (K_curvature I)
  obtain ⟨t, rfl, hz, h⟩ := h
  refine ⟨t, rfl, ?_⟩
  refine gL_law_896 (kc := kc) (ks := ks) (scr_k (k := 1) (by omega) hL) hz ?_
  refine mC_mono (fun r' u' h' => ?_) h
  obtain ⟨v, rfl, I', e0, e1⟩ := h'
  refine ⟨v, rfl, ?_⟩
  refine mW_loc [1, 2, 3, 4, 5, 0] (lv2 := [(0, _), (1, _), (2, _), (3, _), (4, _), (5, _)]) rfl ?_
  exact gL_law_908 (kc := kc) (ks := ks) (n_a3 := 1) I'.2.2.2.1.1 I'.2.2.2.2.1 vp_01 (fun _ _ => K u' I') (fun _ _ _ => K u' I') (fun _ c2 c3 => absurd (by rw [e1 c2]; exact lg_self) c3) (fun c => absurd e0 c)
theorem lc_941 {G : mG} {nm : String} {a b i kc ks : Nat} {w : mH} {Φ : mF} (I : gI a b w) (hi : i + 5 ≤ G.2.2.2 6) (hL : G.2.2.2 6 ≤ 2560) (K : ∀ w', gI a b w' → mW G (mL_law nm) 11 kc ks 1930 [(0, .ref (G.2.2.2 5)), (1, .ref a), (2, .ref b), (3, .ref (b + 22)), (4, .int (nI i))] [] w' Φ) : mW G (mL_law nm) 11 (kc + 1) (ks + 6) 941 [(0, .ref (G.2.2.2 5)), (1, .ref a), (2, .ref b), (3, .ref (b + 22)), (4, .int (nI i))] [] w Φ := by
  refine gL_law_941 (kc := kc) (ks := ks) (scr_k (k := 1) (by omega) hL) ?_
  refine mCH_mono (fun r u h => ?_) (K_push I)
  obtain ⟨t, rfl, hz, h⟩ := h
  refine ⟨t, rfl, ?_⟩
  refine gL_law_952 (kc := kc) (ks := ks) (scr_k (k := 1) (by omega) hL) hz ?_
  refine mC_mono (fun r' u' h' => ?_) h
  obtain ⟨v, rfl, I', e0, e1⟩ := h'
  refine ⟨v, rfl, ?_⟩
  refine mW_loc [1, 2, 3, 4, 5, 0] (lv2 := [(0, _), (1, _), (2, _), (3, _), (4, _), (5, _)]) rfl ?_
  exact gL_law_964 (kc := kc) (ks := ks) (n_a3 := 1) I'.2.2.2.1.1 I'.2.2.2.2.1 vp_01 (fun _ _ => K u' I') (fun _ _ _ => K u' I') (fun _ c2 c3 => absurd (by rw [e1 c2]; exact lg_self) c3) (fun c => absurd e0 c)
theorem lc_997 {G : mG} {nm : String} {a b i kc ks : Nat} {w : mH} {Φ : mF} (I : gI a b w) (hi : i + 5 ≤ G.2.2.2 6) (hL : G.2.2.2 6 ≤ 2560) (K : ∀ w', gI a b w' → mW G (mL_law nm) 11 kc ks 1930 [(0, .ref (G.2.2.2 5)), (1, .ref a), (2, .ref b), (3, .ref (b + 22)), (4, .int (nI i))] [] w' Φ) : mW G (mL_law nm) 11 kc ks 997 [(0, .ref (G.2.2.2 5)), (1, .ref a), (2, .ref b), (3, .ref (b + 22)), (4, .int (nI i))] [] w Φ := by
  refine gL_law_997 (kc := kc) (ks := ks) I.2.2.1.1 ?_
  refine mC_mono (fun r u h => ?_) (K_run I)
  obtain ⟨v, rfl, hz, h⟩ := h
  refine ⟨v, rfl, ?_⟩
  refine gL_law_1001 (kc := kc) (ks := ks) hz ?_
  refine mC_mono (fun r' u' h' => ?_) h
  obtain ⟨rfl, I'⟩ := h'
  refine ⟨v, rfl, ?_⟩
  exact gL_law_1005 (kc := kc) (ks := ks) (fun _ => K u' I') (fun c => absurd rfl c)
theorem lc_1010 {G : mG} {nm : String} {a b i kc ks : Nat} {w : mH} {Φ : mF} (I : gI a b w) (hi : i + 5 ≤ G.2.2.2 6) (hL : G.2.2.2 6 ≤ 2560) (K : ∀ w', gI a b w' → mW G (mL_law nm) 11 kc ks 1930 [(0, .ref (G.2.2.2 5)), (1, .ref a), (2, .ref b), (3, .ref (b + 22)), (4, .int (nI i))] [] w' Φ) : mW G (mL_law nm) 11 (kc + 1) (ks + 6) 1010 [(0, .ref (G.2.2.2 5)), (1, .ref a), (2, .ref b), (3, .ref (b + 22)), (4, .int (nI i))] [] w Φ := by
  refine gL_law_1010 (kc := kc) (ks := ks) (scr_k (k := 1) (by omega) hL) (scr_k (k := 2) (by omega) hL) ?_
  refine mCH_mono (fun r u h => ?_) (K_trace I)
  obtain ⟨t, rfl, hz, h⟩ := h
  refine ⟨t, rfl, ?_⟩
  refine gL_law_1027 (kc := kc) (ks := ks) (scr_k (k := 1) (by omega) hL) (scr_k (k := 2) (by omega) hL) hz ?_
  refine mC_mono (fun r' u' h' => ?_) h
  obtain ⟨v, rfl, I', e0, e1⟩ := h'
  refine ⟨v, rfl, ?_⟩
  refine mW_loc [1, 2, 3, 4, 5, 0] (lv2 := [(0, _), (1, _), (2, _), (3, _), (4, _), (5, _)]) rfl ?_
  exact gL_law_1045 (kc := kc) (ks := ks) (n_a3 := 1) I'.2.2.2.1.1 I'.2.2.2.2.1 vp_01 (fun _ _ => K u' I') (fun _ _ _ => K u' I') (fun _ c2 c3 => absurd (by rw [e1 c2]; exact lg_self) c3) (fun c => absurd e0 c)
theorem lc_1078 {G : mG} {nm : String} {a b i kc ks : Nat} {w : mH} {Φ : mF} (I : gI a b w) (hi : i + 5 ≤ G.2.2.2 6) (hL : G.2.2.2 6 ≤ 2560) (K : ∀ w', gI a b w' → mW G (mL_law nm) 11 kc ks 1930 [(0, .ref (G.2.2.2 5)), (1, .ref a), (2, .ref b), (3, .ref (b + 22)), (4, .int (nI i))] [] w' Φ) : mW G (mL_law nm) 11 (kc + 1) (ks + 6) 1078 [(0, .ref (G.2.2.2 5)), (1, .ref a), (2, .ref b), (3, .ref (b + 22)), (4, .int (nI i))] [] w Φ := by
  refine gL_law_1078 (kc := kc) (ks := ks) (scr_k (k := 1) (by omega) hL) ?_
  refine mCH_mono (fun r u h => ?_) (K_measure I)
  obtain ⟨t, rfl, hz, h⟩ := h
  refine ⟨t, rfl, ?_⟩
  refine gL_law_1089 (kc := kc) (ks := ks) (scr_k (k := 1) (by omega) hL) hz ?_
  refine mC_mono (fun r' u' h' => ?_) h
  obtain ⟨v, rfl, I', e0, e1⟩ := h'
  refine ⟨v, rfl, ?_⟩
  refine mW_loc [1, 2, 3, 4, 5, 0] (lv2 := [(0, _), (1, _), (2, _), (3, _), (4, _), (5, _)]) rfl ?_
  exact gL_law_1101 (kc := kc) (ks := ks) (n_a3 := 1) I'.2.2.2.1.1 I'.2.2.2.2.1 vp_01 (fun _ _ => K u' I') (fun _ _ _ => K u' I') (fun _ c2 c3 => absurd (by rw [e1 c2]; exact lg_self) c3) (fun c => absurd e0 c)
theorem lc_1134 {G : mG} {nm : String} {a b i kc ks : Nat} {w : mH} {Φ : mF} (I : gI a b w) (hi : i + 5 ≤ G.2.2.2 6) (hL : G.2.2.2 6 ≤ 2560) (K : ∀ w', gI a b w' → mW G (mL_law nm) 11 kc ks 1930 [(0, .ref (G.2.2.2 5)), (1, .ref a), (2, .ref b), (3, .ref (b + 22)), (4, .int (nI i))] [] w' Φ) : mW G (mL_law nm) 11 (kc + 1) (ks + 6) 1134 [(0, .ref (G.2.2.2 5)), (1, .ref a), (2, .ref b), (3, .ref (b + 22)), (4, .int (nI i))] [] w Φ := by
  refine gL_law_1134 (kc := kc) (ks := ks)  ?_
  refine mCH_mono (fun r u h => ?_) (K_cost I)
  obtain ⟨t, rfl, hz, h⟩ := h
  refine ⟨t, rfl, ?_⟩
  refine gL_law_1139 (kc := kc) (ks := ks) hz ?_
  refine mC_mono (fun r' u' h' => ?_) h
  obtain ⟨v, rfl, I', e0, e1⟩ := h'
  refine ⟨v, rfl, ?_⟩
  refine mW_loc [1, 2, 3, 4, 5, 0] (lv2 := [(0, _), (1, _), (2, _), (3, _), (4, _), (5, _)]) rfl ?_
  exact gL_law_1145 (kc := kc) (ks := ks) (n_a3 := 1) I'.2.2.2.1.1 I'.2.2.2.2.1 vp_01 (fun _ _ => K u' I') (fun _ _ _ => K u' I') (fun _ c2 c3 => absurd (by rw [e1 c2]; exact lg_self) c3) (fun c => absurd e0 c)
theorem lc_1177 {G : mG} {nm : String} {a b i kc ks : Nat} {w : mH} {Φ : mF} (I : gI a b w) (hi : i + 5 ≤ G.2.2.2 6) (hL : G.2.2.2 6 ≤ 2560) (K : ∀ w', gI a b w' → mW G (mL_law nm) 11 kc ks 1930 [(0, .ref (G.2.2.2 5)), (1, .ref a), (2, .ref b), (3, .ref (b + 22)), (4, .int (nI i))] [] w' Φ) : mW G (mL_law nm) 11 (kc + 1) (ks + 6) 1177 [(0, .ref (G.2.2.2 5)), (1, .ref a), (2, .ref b), (3, .ref (b + 22)), (4, .int (nI i))] [] w Φ := by
  refine gL_law_1177 (kc := kc) (ks := ks) (scr_k (k := 1) (by omega) hL) ?_
  refine mCH_mono (fun r u h => ?_) (K_reason I)
  obtain ⟨t, rfl, hz, h⟩ := h
  refine ⟨t, rfl, ?_⟩
  refine gL_law_1188 (kc := kc) (ks := ks) (scr_k (k := 1) (by omega) hL) hz ?_
  refine mC_mono (fun r' u' h' => ?_) h
  obtain ⟨v, rfl, I', e0, e1⟩ := h'
  refine ⟨v, rfl, ?_⟩
  refine mW_loc [1, 2, 3, 4, 5, 0] (lv2 := [(0, _), (1, _), (2, _), (3, _), (4, _), (5, _)]) rfl ?_
  exact gL_law_1200 (kc := kc) (ks := ks) (n_a3 := 1) I'.2.2.2.1.1 I'.2.2.2.2.1 vp_01 (fun _ _ => K u' I') (fun _ _ _ => K u' I') (fun _ c2 c3 => absurd (by rw [e1 c2]; exact lg_self) c3) (fun c => absurd e0 c)
theorem lc_1233 {G : mG} {nm : String} {a b i kc ks : Nat} {w : mH} {Φ : mF} (I : gI a b w) (hi : i + 5 ≤ G.2.2.2 6) (hL : G.2.2.2 6 ≤ 2560) (K : ∀ w', gI a b w' → mW G (mL_law nm) 11 kc ks 1930 [(0, .ref (G.2.2.2 5)), (1, .ref a), (2, .ref b), (3, .ref (b + 22)), (4, .int (nI i))] [] w' Φ) : mW G (mL_law nm) 11 (kc + 1) (ks + 6) 1233 [(0, .ref (G.2.2.2 5)), (1, .ref a), (2, .ref b), (3, .ref (b + 22)), (4, .int (nI i))] [] w Φ := by
  refine gL_law_1233 (kc := kc) (ks := ks)  ?_
  refine mCH_mono (fun r u h => ?_) (K_meanSquareBits I)
  obtain ⟨t, rfl, hz, h⟩ := h
  refine ⟨t, rfl, ?_⟩
  refine gL_law_1238 (kc := kc) (ks := ks) hz ?_
  refine mC_mono (fun r' u' h' => ?_) h
  obtain ⟨v, rfl, I', e0, e1⟩ := h'
  refine ⟨v, rfl, ?_⟩
  refine mW_loc [1, 2, 3, 4, 5, 0] (lv2 := [(0, _), (1, _), (2, _), (3, _), (4, _), (5, _)]) rfl ?_
  exact gL_law_1244 (kc := kc) (ks := ks) (n_a3 := 1) I'.2.2.2.1.1 I'.2.2.2.2.1 vp_01 (fun _ _ => K u' I') (fun _ _ _ => K u' I') (fun _ c2 c3 => absurd (by rw [e1 c2]; exact lg_self) c3) (fun c => absurd e0 c)
theorem lc_1276 {G : mG} {nm : String} {a b i kc ks : Nat} {w : mH} {Φ : mF} (I : gI a b w) (hi : i + 5 ≤ G.2.2.2 6) (hL : G.2.2.2 6 ≤ 2560) (K : ∀ w', gI a b w' → mW G (mL_law nm) 11 kc ks 1930 [(0, .ref (G.2.2.2 5)), (1, .ref a), (2, .ref b), (3, .ref (b + 22)), (4, .int (nI i))] [] w' Φ) : mW G (mL_law nm) 11 (kc + 1) (ks + 6) 1276 [(0, .ref (G.2.2.2 5)), (1, .ref a), (2, .ref b), (3, .ref (b + 22)), (4, .int (nI i))] [] w Φ := by
  refine gL_law_1276 (kc := kc) (ks := ks)  ?_
  refine mCH_mono (fun r u h => ?_) (K_saturatedBits I)
  obtain ⟨t, rfl, hz, h⟩ := h
  refine ⟨t, rfl, ?_⟩
  refine gL_law_1281 (kc := kc) (ks := ks) hz ?_
  refine mC_mono (fun r' u' h' => ?_) h
  obtain ⟨v, rfl, I', e0, e1⟩ := h'
  refine ⟨v, rfl, ?_⟩
  refine mW_loc [1, 2, 3, 4, 5, 0] (lv2 := [(0, _), (1, _), (2, _), (3, _), (4, _), (5, _)]) rfl ?_
  exact gL_law_1287 (kc := kc) (ks := ks) (n_a3 := 1) I'.2.2.2.1.1 I'.2.2.2.2.1 vp_01 (fun _ _ => K u' I') (fun _ _ _ => K u' I') (fun _ c2 c3 => absurd (by rw [e1 c2]; exact lg_self) c3) (fun c => absurd e0 c)
theorem lc_1320 {G : mG} {nm : String} {a b i kc ks : Nat} {w : mH} {Φ : mF} (I : gI a b w) (hi : i + 5 ≤ G.2.2.2 6) (hL : G.2.2.2 6 ≤ 2560) (K : ∀ w', gI a b w' → mW G (mL_law nm) 11 kc ks 1930 [(0, .ref (G.2.2.2 5)), (1, .ref a), (2, .ref b), (3, .ref (b + 22)), (4, .int (nI i))] [] w' Φ) : mW G (mL_law nm) 11 (kc + 1) (ks + 6) 1320 [(0, .ref (G.2.2.2 5)), (1, .ref a), (2, .ref b), (3, .ref (b + 22)), (4, .int (nI i))] [] w Φ := by
  refine gL_law_1320 (kc := kc) (ks := ks)  ?_
  refine mCH_mono (fun r u h => ?_) (K_hold I)
  obtain ⟨t, rfl, hz, h⟩ := h
  refine ⟨t, rfl, ?_⟩
  refine gL_law_1325 (kc := kc) (ks := ks) hz ?_
  refine mC_mono (fun r' u' h' => ?_) h
  obtain ⟨v, rfl, I', e0, e1⟩ := h'
  refine ⟨v, rfl, ?_⟩
  refine mW_loc [1, 2, 3, 4, 5, 0] (lv2 := [(0, _), (1, _), (2, _), (3, _), (4, _), (5, _)]) rfl ?_
  exact gL_law_1331 (kc := kc) (ks := ks) (n_a3 := 1) I'.2.2.2.1.1 I'.2.2.2.2.1 vp_01 (fun _ _ => K u' I') (fun _ _ _ => K u' I') (fun _ c2 c3 => absurd (by rw [e1 c2]; exact lg_self) c3) (fun c => absurd e0 c)
theorem lc_1364 {G : mG} {nm : String} {a b i kc ks : Nat} {w : mH} {Φ : mF} (I : gI a b w) (hi : i + 5 ≤ G.2.2.2 6) (hL : G.2.2.2 6 ≤ 2560) (K : ∀ w', gI a b w' → mW G (mL_law nm) 11 kc ks 1930 [(0, .ref (G.2.2.2 5)), (1, .ref a), (2, .ref b), (3, .ref (b + 22)), (4, .int (nI i))] [] w' Φ) : mW G (mL_law nm) 11 (kc + 1) (ks + 6) 1364 [(0, .ref (G.2.2.2 5)), (1, .ref a), (2, .ref b), (3, .ref (b + 22)), (4, .int (nI i))] [] w Φ := by
  refine gL_law_1364 (kc := kc) (ks := ks) (scr_k (k := 1) (by omega) hL) ?_
  refine mCH_mono (fun r u h => ?_) (K_compare I)
  obtain ⟨t, rfl, hz, h⟩ := h
  refine ⟨t, rfl, ?_⟩
  refine gL_law_1375 (kc := kc) (ks := ks) (scr_k (k := 1) (by omega) hL) hz ?_
  refine mC_mono (fun r' u' h' => ?_) h
  obtain ⟨v, rfl, I', e0, e1⟩ := h'
  refine ⟨v, rfl, ?_⟩
  refine mW_loc [1, 2, 3, 4, 5, 0] (lv2 := [(0, _), (1, _), (2, _), (3, _), (4, _), (5, _)]) rfl ?_
  exact gL_law_1387 (kc := kc) (ks := ks) (n_a3 := 1) I'.2.2.2.1.1 I'.2.2.2.2.1 vp_01 (fun _ _ => K u' I') (fun _ _ _ => K u' I') (fun _ c2 c3 => absurd (by rw [e1 c2]; exact lg_self) c3) (fun c => absurd e0 c)
theorem lc_1420 {G : mG} {nm : String} {a b i kc ks : Nat} {w : mH} {Φ : mF} (I : gI a b w) (hi : i + 5 ≤ G.2.2.2 6) (hL : G.2.2.2 6 ≤ 2560) (K : ∀ w', gI a b w' → mW G (mL_law nm) 11 kc ks 1930 [(0, .ref (G.2.2.2 5)), (1, .ref a), (2, .ref b), (3, .ref (b + 22)), (4, .int (nI i))] [] w' Φ) : mW G (mL_law nm) 11 kc ks 1420 [(0, .ref (G.2.2.2 5)), (1, .ref a), (2, .ref b), (3, .ref (b + 22)), (4, .int (nI i))] [] w Φ := by
  refine gL_law_1420 (kc := kc) (ks := ks) I.2.2.1.1 ?_
  refine mC_mono (fun r u h => ?_) (K_search I)
  obtain ⟨v, rfl, hz, h⟩ := h
  refine ⟨v, rfl, ?_⟩
  refine gL_law_1424 (kc := kc) (ks := ks) hz ?_
  refine mC_mono (fun r' u' h' => ?_) h
  obtain ⟨rfl, I'⟩ := h'
  refine ⟨v, rfl, ?_⟩
  exact gL_law_1428 (kc := kc) (ks := ks) (fun _ => K u' I') (fun c => absurd rfl c)
theorem lc_1433 {G : mG} {nm : String} {a b i kc ks : Nat} {w : mH} {Φ : mF} (I : gI a b w) (hi : i + 5 ≤ G.2.2.2 6) (hL : G.2.2.2 6 ≤ 2560) (K : ∀ w', gI a b w' → mW G (mL_law nm) 11 kc ks 1930 [(0, .ref (G.2.2.2 5)), (1, .ref a), (2, .ref b), (3, .ref (b + 22)), (4, .int (nI i))] [] w' Φ) : mW G (mL_law nm) 11 kc ks 1433 [(0, .ref (G.2.2.2 5)), (1, .ref a), (2, .ref b), (3, .ref (b + 22)), (4, .int (nI i))] [] w Φ := by
  refine gL_law_1433 (kc := kc) (ks := ks) I.2.2.1.1 ?_
  refine mC_mono (fun r u h => ?_) (K_climb I)
  obtain ⟨v, rfl, hz, h⟩ := h
  refine ⟨v, rfl, ?_⟩
  refine gL_law_1437 (kc := kc) (ks := ks) hz ?_
  refine mC_mono (fun r' u' h' => ?_) h
  obtain ⟨rfl, I'⟩ := h'
  refine ⟨v, rfl, ?_⟩
  exact gL_law_1441 (kc := kc) (ks := ks) (fun _ => K u' I') (fun c => absurd rfl c)
theorem lc_1446 {G : mG} {nm : String} {a b i kc ks : Nat} {w : mH} {Φ : mF} (I : gI a b w) (hi : i + 5 ≤ G.2.2.2 6) (hL : G.2.2.2 6 ≤ 2560) (K : ∀ w', gI a b w' → mW G (mL_law nm) 11 kc ks 1930 [(0, .ref (G.2.2.2 5)), (1, .ref a), (2, .ref b), (3, .ref (b + 22)), (4, .int (nI i))] [] w' Φ) : mW G (mL_law nm) 11 (kc + 1) (ks + 6) 1446 [(0, .ref (G.2.2.2 5)), (1, .ref a), (2, .ref b), (3, .ref (b + 22)), (4, .int (nI i))] [] w Φ := by
  refine gL_law_1446 (kc := kc) (ks := ks) (scr_k (k := 1) (by omega) hL) (fun _ => scr_k (k := 2) (by omega) hL) (fun _ => scr_k (k := 2) (by omega) hL) (fun c1 => ?_) (fun c1 => ?_)
  · refine mCH_mono (fun r u h => ?_) (K_found I)
    obtain ⟨t, rfl, hz, h⟩ := h
    refine ⟨t, rfl, ?_⟩
    refine gL_law_1471 (kc := kc) (ks := ks) (scr_k (k := 1) (by omega) hL) (fun _ => scr_k (k := 2) (by omega) hL) hz (fun _ => scr_k (k := 2) (by omega) hL) (fun _ => ?_) (fun c => absurd c1 c)
    refine mC_mono (fun r' u' h' => ?_) h
    obtain ⟨v, rfl, I', e0, e1⟩ := h'
    refine ⟨v, rfl, ?_⟩
    refine mW_loc [1, 2, 3, 4, 5, 0] (lv2 := [(0, _), (1, _), (2, _), (3, _), (4, _), (5, _)]) rfl ?_
    exact gL_law_1497 (kc := kc) (ks := ks) (n_a3 := 1) I'.2.2.2.1.1 I'.2.2.2.2.1 vp_01 (fun _ _ => K u' I') (fun _ _ _ => K u' I') (fun _ c2 c3 => absurd (by rw [e1 c2]; exact lg_self) c3) (fun c => absurd e0 c)
  · refine mCH_mono (fun r u h => ?_) (K_found I)
    obtain ⟨t, rfl, hz, h⟩ := h
    refine ⟨t, rfl, ?_⟩
    refine gL_law_1471 (kc := kc) (ks := ks) (scr_k (k := 1) (by omega) hL) (fun _ => scr_k (k := 2) (by omega) hL) hz (fun _ => scr_k (k := 2) (by omega) hL) (fun c => absurd c c1) (fun _ => ?_)
    refine mC_mono (fun r' u' h' => ?_) h
    obtain ⟨v, rfl, I', e0, e1⟩ := h'
    refine ⟨v, rfl, ?_⟩
    refine mW_loc [1, 2, 3, 4, 5, 0] (lv2 := [(0, _), (1, _), (2, _), (3, _), (4, _), (5, _)]) rfl ?_
    exact gL_law_1497 (kc := kc) (ks := ks) (n_a3 := 1) I'.2.2.2.1.1 I'.2.2.2.2.1 vp_01 (fun _ _ => K u' I') (fun _ _ _ => K u' I') (fun _ c2 c3 => absurd (by rw [e1 c2]; exact lg_self) c3) (fun c => absurd e0 c)
theorem lc_1530 {G : mG} {nm : String} {a b i kc ks : Nat} {w : mH} {Φ : mF} (I : gI a b w) (hi : i + 5 ≤ G.2.2.2 6) (hL : G.2.2.2 6 ≤ 2560) (K : ∀ w', gI a b w' → mW G (mL_law nm) 11 kc ks 1930 [(0, .ref (G.2.2.2 5)), (1, .ref a), (2, .ref b), (3, .ref (b + 22)), (4, .int (nI i))] [] w' Φ) : mW G (mL_law nm) 11 (kc + 1) (ks + 6) 1530 [(0, .ref (G.2.2.2 5)), (1, .ref a), (2, .ref b), (3, .ref (b + 22)), (4, .int (nI i))] [] w Φ := by
  refine gL_law_1530 (kc := kc) (ks := ks) (scr_k (k := 1) (by omega) hL) (fun c1 => ?_) (fun c1 => ?_)
  · refine mCH_mono (fun r u h => ?_) (K_foundCost I)
    obtain ⟨t, rfl, hz, h⟩ := h
    refine ⟨t, rfl, ?_⟩
    refine gL_law_1549 (kc := kc) (ks := ks) (scr_k (k := 1) (by omega) hL) hz (fun _ => ?_) (fun c => absurd c1 c)
    refine mC_mono (fun r' u' h' => ?_) h
    obtain ⟨v, rfl, I', e0, e1⟩ := h'
    refine ⟨v, rfl, ?_⟩
    refine mW_loc [1, 2, 3, 4, 5, 0] (lv2 := [(0, _), (1, _), (2, _), (3, _), (4, _), (5, _)]) rfl ?_
    exact gL_law_1569 (kc := kc) (ks := ks) (n_a3 := 1) I'.2.2.2.1.1 I'.2.2.2.2.1 vp_01 (fun _ _ => K u' I') (fun _ _ _ => K u' I') (fun _ c2 c3 => absurd (by rw [e1 c2]; exact lg_self) c3) (fun c => absurd e0 c)
  · refine mCH_mono (fun r u h => ?_) (K_foundCost I)
    obtain ⟨t, rfl, hz, h⟩ := h
    refine ⟨t, rfl, ?_⟩
    refine gL_law_1549 (kc := kc) (ks := ks) (scr_k (k := 1) (by omega) hL) hz (fun c => absurd c c1) (fun _ => ?_)
    refine mC_mono (fun r' u' h' => ?_) h
    obtain ⟨v, rfl, I', e0, e1⟩ := h'
    refine ⟨v, rfl, ?_⟩
    refine mW_loc [1, 2, 3, 4, 5, 0] (lv2 := [(0, _), (1, _), (2, _), (3, _), (4, _), (5, _)]) rfl ?_
    exact gL_law_1569 (kc := kc) (ks := ks) (n_a3 := 1) I'.2.2.2.1.1 I'.2.2.2.2.1 vp_01 (fun _ _ => K u' I') (fun _ _ _ => K u' I') (fun _ c2 c3 => absurd (by rw [e1 c2]; exact lg_self) c3) (fun c => absurd e0 c)
theorem lc_1601 {G : mG} {nm : String} {a b i kc ks : Nat} {w : mH} {Φ : mF} (I : gI a b w) (hi : i + 5 ≤ G.2.2.2 6) (hL : G.2.2.2 6 ≤ 2560) (K : ∀ w', gI a b w' → mW G (mL_law nm) 11 kc ks 1930 [(0, .ref (G.2.2.2 5)), (1, .ref a), (2, .ref b), (3, .ref (b + 22)), (4, .int (nI i))] [] w' Φ) : mW G (mL_law nm) 11 (kc + 1) (ks + 6) 1601 [(0, .ref (G.2.2.2 5)), (1, .ref a), (2, .ref b), (3, .ref (b + 22)), (4, .int (nI i))] [] w Φ := by
  refine gL_law_1601 (kc := kc) (ks := ks) (scr_k (k := 1) (by omega) hL) (fun c1 => ?_) (fun c1 => ?_)
  · refine mCH_mono (fun r u h => ?_) (K_apply I)
    obtain ⟨t, rfl, hz, h⟩ := h
    refine ⟨t, rfl, ?_⟩
    refine gL_law_1620 (kc := kc) (ks := ks) (scr_k (k := 1) (by omega) hL) hz (fun _ => ?_) (fun c => absurd c1 c)
    refine mC_mono (fun r' u' h' => ?_) h
    obtain ⟨v, rfl, I', e0, e1⟩ := h'
    refine ⟨v, rfl, ?_⟩
    refine mW_loc [1, 2, 3, 4, 5, 0] (lv2 := [(0, _), (1, _), (2, _), (3, _), (4, _), (5, _)]) rfl ?_
    exact gL_law_1640 (kc := kc) (ks := ks) (n_a3 := 1) I'.2.2.2.1.1 I'.2.2.2.2.1 vp_01 (fun _ _ => K u' I') (fun _ _ _ => K u' I') (fun _ c2 c3 => absurd (by rw [e1 c2]; exact lg_self) c3) (fun c => absurd e0 c)
  · refine mCH_mono (fun r u h => ?_) (K_apply I)
    obtain ⟨t, rfl, hz, h⟩ := h
    refine ⟨t, rfl, ?_⟩
    refine gL_law_1620 (kc := kc) (ks := ks) (scr_k (k := 1) (by omega) hL) hz (fun c => absurd c c1) (fun _ => ?_)
    refine mC_mono (fun r' u' h' => ?_) h
    obtain ⟨v, rfl, I', e0, e1⟩ := h'
    refine ⟨v, rfl, ?_⟩
    refine mW_loc [1, 2, 3, 4, 5, 0] (lv2 := [(0, _), (1, _), (2, _), (3, _), (4, _), (5, _)]) rfl ?_
    exact gL_law_1640 (kc := kc) (ks := ks) (n_a3 := 1) I'.2.2.2.1.1 I'.2.2.2.2.1 vp_01 (fun _ _ => K u' I') (fun _ _ _ => K u' I') (fun _ c2 c3 => absurd (by rw [e1 c2]; exact lg_self) c3) (fun c => absurd e0 c)
theorem lc_1673 {G : mG} {nm : String} {a b i kc ks : Nat} {w : mH} {Φ : mF} (I : gI a b w) (hi : i + 5 ≤ G.2.2.2 6) (hL : G.2.2.2 6 ≤ 2560) (K : ∀ w', gI a b w' → mW G (mL_law nm) 11 kc ks 1930 [(0, .ref (G.2.2.2 5)), (1, .ref a), (2, .ref b), (3, .ref (b + 22)), (4, .int (nI i))] [] w' Φ) : mW G (mL_law nm) 11 (kc + 1) (ks + 6) 1673 [(0, .ref (G.2.2.2 5)), (1, .ref a), (2, .ref b), (3, .ref (b + 22)), (4, .int (nI i))] [] w Φ := by
  refine gL_law_1673 (kc := kc) (ks := ks) (scr_k (k := 1) (by omega) hL) (scr_k (k := 2) (by omega) hL) (scr_k (k := 3) (by omega) hL) ?_
  refine mCH_mono (fun r u h => ?_) (K_lowest I)
  obtain ⟨t, rfl, hz, h⟩ := h
  refine ⟨t, rfl, ?_⟩
  refine gL_law_1706 (kc := kc) (ks := ks) (scr_k (k := 1) (by omega) hL) (scr_k (k := 2) (by omega) hL) (scr_k (k := 3) (by omega) hL) hz ?_
  refine mC_mono (fun r' u' h' => ?_) h
  obtain ⟨v, rfl, I', e0, e1⟩ := h'
  refine ⟨v, rfl, ?_⟩
  refine mW_loc [1, 2, 3, 4, 5, 0] (lv2 := [(0, _), (1, _), (2, _), (3, _), (4, _), (5, _)]) rfl ?_
  exact gL_law_1740 (kc := kc) (ks := ks) (n_a3 := 1) I'.2.2.2.1.1 I'.2.2.2.2.1 vp_01 (fun _ _ => K u' I') (fun _ _ _ => K u' I') (fun _ c2 c3 => absurd (by rw [e1 c2]; exact lg_self) c3) (fun c => absurd e0 c)
theorem lc_1773 {G : mG} {nm : String} {a b i kc ks : Nat} {w : mH} {Φ : mF} (I : gI a b w) (hi : i + 5 ≤ G.2.2.2 6) (hL : G.2.2.2 6 ≤ 2560) (K : ∀ w', gI a b w' → mW G (mL_law nm) 11 kc ks 1930 [(0, .ref (G.2.2.2 5)), (1, .ref a), (2, .ref b), (3, .ref (b + 22)), (4, .int (nI i))] [] w' Φ) : mW G (mL_law nm) 11 (kc + 1) (ks + 6) 1773 [(0, .ref (G.2.2.2 5)), (1, .ref a), (2, .ref b), (3, .ref (b + 22)), (4, .int (nI i))] [] w Φ := by
  refine gL_law_1773 (kc := kc) (ks := ks) (scr_k (k := 1) (by omega) hL) ?_
  refine mCH_mono (fun r u h => ?_) (K_count I)
  obtain ⟨t, rfl, hz, h⟩ := h
  refine ⟨t, rfl, ?_⟩
  refine gL_law_1784 (kc := kc) (ks := ks) (scr_k (k := 1) (by omega) hL) hz ?_
  refine mC_mono (fun r' u' h' => ?_) h
  obtain ⟨v, rfl, I', e0, e1⟩ := h'
  refine ⟨v, rfl, ?_⟩
  refine mW_loc [1, 2, 3, 4, 5, 0] (lv2 := [(0, _), (1, _), (2, _), (3, _), (4, _), (5, _)]) rfl ?_
  exact gL_law_1796 (kc := kc) (ks := ks) (n_a3 := 1) I'.2.2.2.1.1 I'.2.2.2.2.1 vp_01 (fun _ _ => K u' I') (fun _ _ _ => K u' I') (fun _ c2 c3 => absurd (by rw [e1 c2]; exact lg_self) c3) (fun c => absurd e0 c)
theorem lc_1829 {G : mG} {nm : String} {a b i kc ks : Nat} {w : mH} {Φ : mF} (I : gI a b w) (hi : i + 5 ≤ G.2.2.2 6) (hL : G.2.2.2 6 ≤ 2560) (K : ∀ w', gI a b w' → mW G (mL_law nm) 11 kc ks 1930 [(0, .ref (G.2.2.2 5)), (1, .ref a), (2, .ref b), (3, .ref (b + 22)), (4, .int (nI i))] [] w' Φ) : mW G (mL_law nm) 11 (kc + 1) (ks + 6) 1829 [(0, .ref (G.2.2.2 5)), (1, .ref a), (2, .ref b), (3, .ref (b + 22)), (4, .int (nI i))] [] w Φ := by
  refine gL_law_1829 (kc := kc) (ks := ks)  ?_
  refine mCH_mono (fun r u h => ?_) (K_undo I)
  obtain ⟨t, rfl, hz, h⟩ := h
  refine ⟨t, rfl, ?_⟩
  refine gL_law_1834 (kc := kc) (ks := ks) hz ?_
  refine mC_mono (fun r' u' h' => ?_) h
  obtain ⟨v, rfl, I', e0, e1⟩ := h'
  refine ⟨v, rfl, ?_⟩
  refine mW_loc [1, 2, 3, 4, 5, 0] (lv2 := [(0, _), (1, _), (2, _), (3, _), (4, _), (5, _)]) rfl ?_
  exact gL_law_1840 (kc := kc) (ks := ks) (n_a3 := 1) I'.2.2.2.1.1 I'.2.2.2.2.1 vp_01 (fun _ _ => K u' I') (fun _ _ _ => K u' I') (fun _ c2 c3 => absurd (by rw [e1 c2]; exact lg_self) c3) (fun c => absurd e0 c)
theorem lc_1873 {G : mG} {nm : String} {a b i kc ks : Nat} {w : mH} {Φ : mF} (I : gI a b w) (hi : i + 5 ≤ G.2.2.2 6) (hL : G.2.2.2 6 ≤ 2560) (K : ∀ w', gI a b w' → mW G (mL_law nm) 11 kc ks 1930 [(0, .ref (G.2.2.2 5)), (1, .ref a), (2, .ref b), (3, .ref (b + 22)), (4, .int (nI i))] [] w' Φ) : mW G (mL_law nm) 11 kc ks 1873 [(0, .ref (G.2.2.2 5)), (1, .ref a), (2, .ref b), (3, .ref (b + 22)), (4, .int (nI i))] [] w Φ := by
  refine gL_law_1873 (kc := kc) (ks := ks) I.2.2.1.1 ?_
  refine mC_mono (fun r u h => ?_) (K_save I)
  obtain ⟨v, rfl, hz, h⟩ := h
  refine ⟨v, rfl, ?_⟩
  refine gL_law_1877 (kc := kc) (ks := ks) hz ?_
  refine mC_mono (fun r' u' h' => ?_) h
  obtain ⟨rfl, I'⟩ := h'
  refine ⟨v, rfl, ?_⟩
  exact gL_law_1881 (kc := kc) (ks := ks) (fun _ => K u' I') (fun c => absurd rfl c)
theorem lc_1886 {G : mG} {nm : String} {a b i kc ks : Nat} {w : mH} {Φ : mF} (I : gI a b w) (hi : i + 5 ≤ G.2.2.2 6) (hL : G.2.2.2 6 ≤ 2560) (K : ∀ w', gI a b w' → mW G (mL_law nm) 11 kc ks 1930 [(0, .ref (G.2.2.2 5)), (1, .ref a), (2, .ref b), (3, .ref (b + 22)), (4, .int (nI i))] [] w' Φ) : mW G (mL_law nm) 11 (kc + 1) (ks + 6) 1886 [(0, .ref (G.2.2.2 5)), (1, .ref a), (2, .ref b), (3, .ref (b + 22)), (4, .int (nI i))] [] w Φ := by
  refine gL_law_1886 (kc := kc) (ks := ks)  ?_
  refine mCH_mono (fun r u h => ?_) (K_restore I)
  obtain ⟨t, rfl, hz, h⟩ := h
  refine ⟨t, rfl, ?_⟩
  refine gL_law_1891 (kc := kc) (ks := ks) hz ?_
  refine mC_mono (fun r' u' h' => ?_) h
  obtain ⟨v, rfl, I', e0, e1⟩ := h'
  refine ⟨v, rfl, ?_⟩
  refine mW_loc [1, 2, 3, 4, 5, 0] (lv2 := [(0, _), (1, _), (2, _), (3, _), (4, _), (5, _)]) rfl ?_
  exact gL_law_1897 (kc := kc) (ks := ks) (n_a3 := 1) I'.2.2.2.1.1 I'.2.2.2.2.1 vp_01 (fun _ _ => K u' I') (fun _ _ _ => K u' I') (fun _ c2 c3 => absurd (by rw [e1 c2]; exact lg_self) c3) (fun c => absurd e0 c)
theorem scr_lt {i L : Nat} (hi : i ≤ 2600) (hL : L ≤ 2560) : (nI L - 5 < nI i ↔ L < i + 5) := by
  rw [Int32.lt_iff_toInt_lt, i_sub (by rw [nI_toInt (by omega), show (5 : Int32).toInt = 5 from rfl]; omega) (by rw [nI_toInt (by omega), show (5 : Int32).toInt = 5 from rfl]; omega), nI_toInt (by omega), nI_toInt (by omega), show (5 : Int32).toInt = 5 from rfl]
  omega
theorem law_L {G : mG} {nm : String} {a b : Nat} {Φ : mF} (hL : G.2.2.2 6 ≤ 2560) (K0 : ∀ w, gI a b w → Φ (.inl (some (.int 1))) w) : ∀ (n i : Nat) (w : mH), G.2.2.2 6 < i + 5 * n + 5 → i ≤ 2600 → gI a b w → mW G (mL_law nm) 11 (84 * n) (11792 * n) 23 [(0, .ref (G.2.2.2 5)), (1, .ref a), (2, .ref b), (3, .ref (b + 22)), (4, .int (nI i))] [] w Φ
  | 0, i, w, hn, hi, I => by
    have hx : nI (G.2.2.2 6) - 5 < nI i := (scr_lt hi hL).mpr (by omega)
    exact gL_law_23 (kc := 84 * 0) (ks := 11792 * 0) (fun c => absurd hx c) (fun _ => K0 w I) (fun c _ => absurd hx c) (fun c _ _ => absurd hx c) (fun c _ _ _ => absurd hx c) (fun c _ _ _ _ => absurd hx c) (fun c _ _ _ _ _ => absurd hx c) (fun c _ _ _ _ _ _ => absurd hx c) (fun c _ _ _ _ _ _ _ => absurd hx c) (fun c _ _ _ _ _ _ _ _ => absurd hx c) (fun c _ _ _ _ _ _ _ _ _ => absurd hx c) (fun c _ _ _ _ _ _ _ _ _ _ => absurd hx c) (fun c _ _ _ _ _ _ _ _ _ _ _ => absurd hx c) (fun c _ _ _ _ _ _ _ _ _ _ _ _ => absurd hx c) (fun c _ _ _ _ _ _ _ _ _ _ _ _ _ => absurd hx c) (fun c _ _ _ _ _ _ _ _ _ _ _ _ _ _ => absurd hx c) (fun c _ _ _ _ _ _ _ _ _ _ _ _ _ _ _ => absurd hx c) (fun c _ _ _ _ _ _ _ _ _ _ _ _ _ _ _ _ => absurd hx c) (fun c _ _ _ _ _ _ _ _ _ _ _ _ _ _ _ _ _ => absurd hx c) (fun c _ _ _ _ _ _ _ _ _ _ _ _ _ _ _ _ _ _ => absurd hx c) (fun c _ _ _ _ _ _ _ _ _ _ _ _ _ _ _ _ _ _ _ => absurd hx c) (fun c _ _ _ _ _ _ _ _ _ _ _ _ _ _ _ _ _ _ _ _ => absurd hx c) (fun c _ _ _ _ _ _ _ _ _ _ _ _ _ _ _ _ _ _ _ _ _ => absurd hx c) (fun c _ _ _ _ _ _ _ _ _ _ _ _ _ _ _ _ _ _ _ _ _ _ => absurd hx c) (fun c _ _ _ _ _ _ _ _ _ _ _ _ _ _ _ _ _ _ _ _ _ _ _ => absurd hx c) (fun c _ _ _ _ _ _ _ _ _ _ _ _ _ _ _ _ _ _ _ _ _ _ _ _ => absurd hx c) (fun c _ _ _ _ _ _ _ _ _ _ _ _ _ _ _ _ _ _ _ _ _ _ _ _ _ => absurd hx c) (fun c _ _ _ _ _ _ _ _ _ _ _ _ _ _ _ _ _ _ _ _ _ _ _ _ _ _ => absurd hx c) (fun c _ _ _ _ _ _ _ _ _ _ _ _ _ _ _ _ _ _ _ _ _ _ _ _ _ _ _ => absurd hx c) (fun c _ _ _ _ _ _ _ _ _ _ _ _ _ _ _ _ _ _ _ _ _ _ _ _ _ _ _ _ => absurd hx c) (fun c _ _ _ _ _ _ _ _ _ _ _ _ _ _ _ _ _ _ _ _ _ _ _ _ _ _ _ _ _ => absurd hx c) (fun c _ _ _ _ _ _ _ _ _ _ _ _ _ _ _ _ _ _ _ _ _ _ _ _ _ _ _ _ _ _ => absurd hx c) (fun c _ _ _ _ _ _ _ _ _ _ _ _ _ _ _ _ _ _ _ _ _ _ _ _ _ _ _ _ _ _ _ => absurd hx c) (fun c _ _ _ _ _ _ _ _ _ _ _ _ _ _ _ _ _ _ _ _ _ _ _ _ _ _ _ _ _ _ _ _ => absurd hx c) (fun c _ _ _ _ _ _ _ _ _ _ _ _ _ _ _ _ _ _ _ _ _ _ _ _ _ _ _ _ _ _ _ _ _ => absurd hx c) (fun c _ _ _ _ _ _ _ _ _ _ _ _ _ _ _ _ _ _ _ _ _ _ _ _ _ _ _ _ _ _ _ _ _ => absurd hx c)
  | n + 1, i, w, hn, hi, I => by
    by_cases hx : nI (G.2.2.2 6) - 5 < nI i
    · exact gL_law_23 (kc := 84 * (n + 1)) (ks := 11792 * (n + 1)) (fun c => absurd hx c) (fun _ => K0 w I) (fun c _ => absurd hx c) (fun c _ _ => absurd hx c) (fun c _ _ _ => absurd hx c) (fun c _ _ _ _ => absurd hx c) (fun c _ _ _ _ _ => absurd hx c) (fun c _ _ _ _ _ _ => absurd hx c) (fun c _ _ _ _ _ _ _ => absurd hx c) (fun c _ _ _ _ _ _ _ _ => absurd hx c) (fun c _ _ _ _ _ _ _ _ _ => absurd hx c) (fun c _ _ _ _ _ _ _ _ _ _ => absurd hx c) (fun c _ _ _ _ _ _ _ _ _ _ _ => absurd hx c) (fun c _ _ _ _ _ _ _ _ _ _ _ _ => absurd hx c) (fun c _ _ _ _ _ _ _ _ _ _ _ _ _ => absurd hx c) (fun c _ _ _ _ _ _ _ _ _ _ _ _ _ _ => absurd hx c) (fun c _ _ _ _ _ _ _ _ _ _ _ _ _ _ _ => absurd hx c) (fun c _ _ _ _ _ _ _ _ _ _ _ _ _ _ _ _ => absurd hx c) (fun c _ _ _ _ _ _ _ _ _ _ _ _ _ _ _ _ _ => absurd hx c) (fun c _ _ _ _ _ _ _ _ _ _ _ _ _ _ _ _ _ _ => absurd hx c) (fun c _ _ _ _ _ _ _ _ _ _ _ _ _ _ _ _ _ _ _ => absurd hx c) (fun c _ _ _ _ _ _ _ _ _ _ _ _ _ _ _ _ _ _ _ _ => absurd hx c) (fun c _ _ _ _ _ _ _ _ _ _ _ _ _ _ _ _ _ _ _ _ _ => absurd hx c) (fun c _ _ _ _ _ _ _ _ _ _ _ _ _ _ _ _ _ _ _ _ _ _ => absurd hx c) (fun c _ _ _ _ _ _ _ _ _ _ _ _ _ _ _ _ _ _ _ _ _ _ _ => absurd hx c) (fun c _ _ _ _ _ _ _ _ _ _ _ _ _ _ _ _ _ _ _ _ _ _ _ _ => absurd hx c) (fun c _ _ _ _ _ _ _ _ _ _ _ _ _ _ _ _ _ _ _ _ _ _ _ _ _ => absurd hx c) (fun c _ _ _ _ _ _ _ _ _ _ _ _ _ _ _ _ _ _ _ _ _ _ _ _ _ _ => absurd hx c) (fun c _ _ _ _ _ _ _ _ _ _ _ _ _ _ _ _ _ _ _ _ _ _ _ _ _ _ _ => absurd hx c) (fun c _ _ _ _ _ _ _ _ _ _ _ _ _ _ _ _ _ _ _ _ _ _ _ _ _ _ _ _ => absurd hx c) (fun c _ _ _ _ _ _ _ _ _ _ _ _ _ _ _ _ _ _ _ _ _ _ _ _ _ _ _ _ _ => absurd hx c) (fun c _ _ _ _ _ _ _ _ _ _ _ _ _ _ _ _ _ _ _ _ _ _ _ _ _ _ _ _ _ _ => absurd hx c) (fun c _ _ _ _ _ _ _ _ _ _ _ _ _ _ _ _ _ _ _ _ _ _ _ _ _ _ _ _ _ _ _ => absurd hx c) (fun c _ _ _ _ _ _ _ _ _ _ _ _ _ _ _ _ _ _ _ _ _ _ _ _ _ _ _ _ _ _ _ _ => absurd hx c) (fun c _ _ _ _ _ _ _ _ _ _ _ _ _ _ _ _ _ _ _ _ _ _ _ _ _ _ _ _ _ _ _ _ _ => absurd hx c) (fun c _ _ _ _ _ _ _ _ _ _ _ _ _ _ _ _ _ _ _ _ _ _ _ _ _ _ _ _ _ _ _ _ _ => absurd hx c)
    · have hq : i + 5 ≤ G.2.2.2 6 := by
        rw [scr_lt hi hL] at hx
        omega
      have J : ∀ w', gI a b w' → mW G (mL_law nm) 11 (84 * n) (11792 * n) 1930 [(0, .ref (G.2.2.2 5)), (1, .ref a), (2, .ref b), (3, .ref (b + 22)), (4, .int (nI i))] [] w' Φ := by
        intro w' I'
        refine gL_law_1930 (kc := 84 * n) (ks := 11792 * n) ?_
        rw [show nI i + 5 = nI (i + 5) from nI_ad i 5]
        exact law_L hL K0 n (i + 5) w' (by omega) (by omega) I'
      exact gL_law_23 (kc := 84 * (n + 1)) (ks := 11792 * (n + 1)) (fun _ => m_vp (by omega) (by omega)) (fun _ => K0 w I) (fun _ _ => mW_more (by omega) (by omega) (lc_184 I (by omega) hL J)) (fun _ _ _ => mW_more (by omega) (by omega) (lc_252 I (by omega) hL J)) (fun _ _ _ _ => mW_more (by omega) (by omega) (lc_308 I (by omega) hL J)) (fun _ _ _ _ _ => mW_more (by omega) (by omega) (lc_376 I (by omega) hL J)) (fun _ _ _ _ _ _ => mW_more (by omega) (by omega) (lc_432 I (by omega) hL J)) (fun _ _ _ _ _ _ _ => mW_more (by omega) (by omega) (lc_500 I (by omega) hL J)) (fun _ _ _ _ _ _ _ _ => mW_more (by omega) (by omega) (lc_556 I (by omega) hL J)) (fun _ _ _ _ _ _ _ _ _ => mW_more (by omega) (by omega) (lc_624 I (by omega) hL J)) (fun _ _ _ _ _ _ _ _ _ _ => mW_more (by omega) (by omega) (lc_716 I (by omega) hL J)) (fun _ _ _ _ _ _ _ _ _ _ _ => mW_more (by omega) (by omega) (lc_772 I (by omega) hL J)) (fun _ _ _ _ _ _ _ _ _ _ _ _ => mW_more (by omega) (by omega) (lc_816 I (by omega) hL J)) (fun _ _ _ _ _ _ _ _ _ _ _ _ _ => mW_more (by omega) (by omega) (lc_829 I (by omega) hL J)) (fun _ _ _ _ _ _ _ _ _ _ _ _ _ _ => mW_more (by omega) (by omega) (lc_885 I (by omega) hL J)) (fun _ _ _ _ _ _ _ _ _ _ _ _ _ _ _ => mW_more (by omega) (by omega) (lc_941 I (by omega) hL J)) (fun _ _ _ _ _ _ _ _ _ _ _ _ _ _ _ _ => mW_more (by omega) (by omega) (lc_997 I (by omega) hL J)) (fun _ _ _ _ _ _ _ _ _ _ _ _ _ _ _ _ _ => mW_more (by omega) (by omega) (lc_1010 I (by omega) hL J)) (fun _ _ _ _ _ _ _ _ _ _ _ _ _ _ _ _ _ _ => mW_more (by omega) (by omega) (lc_1078 I (by omega) hL J)) (fun _ _ _ _ _ _ _ _ _ _ _ _ _ _ _ _ _ _ _ => mW_more (by omega) (by omega) (lc_1134 I (by omega) hL J)) (fun _ _ _ _ _ _ _ _ _ _ _ _ _ _ _ _ _ _ _ _ => mW_more (by omega) (by omega) (lc_1177 I (by omega) hL J)) (fun _ _ _ _ _ _ _ _ _ _ _ _ _ _ _ _ _ _ _ _ _ => mW_more (by omega) (by omega) (lc_1233 I (by omega) hL J)) (fun _ _ _ _ _ _ _ _ _ _ _ _ _ _ _ _ _ _ _ _ _ _ => mW_more (by omega) (by omega) (lc_1276 I (by omega) hL J)) (fun _ _ _ _ _ _ _ _ _ _ _ _ _ _ _ _ _ _ _ _ _ _ _ => mW_more (by omega) (by omega) (lc_1320 I (by omega) hL J)) (fun _ _ _ _ _ _ _ _ _ _ _ _ _ _ _ _ _ _ _ _ _ _ _ _ => mW_more (by omega) (by omega) (lc_1364 I (by omega) hL J)) (fun _ _ _ _ _ _ _ _ _ _ _ _ _ _ _ _ _ _ _ _ _ _ _ _ _ => mW_more (by omega) (by omega) (lc_1420 I (by omega) hL J)) (fun _ _ _ _ _ _ _ _ _ _ _ _ _ _ _ _ _ _ _ _ _ _ _ _ _ _ => mW_more (by omega) (by omega) (lc_1433 I (by omega) hL J)) (fun _ _ _ _ _ _ _ _ _ _ _ _ _ _ _ _ _ _ _ _ _ _ _ _ _ _ _ => mW_more (by omega) (by omega) (lc_1446 I (by omega) hL J)) (fun _ _ _ _ _ _ _ _ _ _ _ _ _ _ _ _ _ _ _ _ _ _ _ _ _ _ _ _ => mW_more (by omega) (by omega) (lc_1530 I (by omega) hL J)) (fun _ _ _ _ _ _ _ _ _ _ _ _ _ _ _ _ _ _ _ _ _ _ _ _ _ _ _ _ _ => mW_more (by omega) (by omega) (lc_1601 I (by omega) hL J)) (fun _ _ _ _ _ _ _ _ _ _ _ _ _ _ _ _ _ _ _ _ _ _ _ _ _ _ _ _ _ _ => mW_more (by omega) (by omega) (lc_1673 I (by omega) hL J)) (fun _ _ _ _ _ _ _ _ _ _ _ _ _ _ _ _ _ _ _ _ _ _ _ _ _ _ _ _ _ _ _ => mW_more (by omega) (by omega) (lc_1773 I (by omega) hL J)) (fun _ _ _ _ _ _ _ _ _ _ _ _ _ _ _ _ _ _ _ _ _ _ _ _ _ _ _ _ _ _ _ _ => mW_more (by omega) (by omega) (lc_1829 I (by omega) hL J)) (fun _ _ _ _ _ _ _ _ _ _ _ _ _ _ _ _ _ _ _ _ _ _ _ _ _ _ _ _ _ _ _ _ _ => mW_more (by omega) (by omega) (lc_1873 I (by omega) hL J)) (fun _ _ _ _ _ _ _ _ _ _ _ _ _ _ _ _ _ _ _ _ _ _ _ _ _ _ _ _ _ _ _ _ _ _ => mW_more (by omega) (by omega) (lc_1886 I (by omega) hL J)) (fun _ _ _ _ _ _ _ _ _ _ _ _ _ _ _ _ _ _ _ _ _ _ _ _ _ _ _ _ _ _ _ _ _ _ => mW_more (by omega) (by omega) (J w I))
