def wL (E : kE) (h3 : Nat → Nat) (h4 : Nat → Nat) (cd : Nat → Int32) (n : Nat) (sc : Bool) (rt : Nat) (on : Nat → Bool) (lo : Nat → Int64) (hi : Nat → Int64) (son : Nat → Bool) (slo : Nat → Int64) (shi : Nat → Int64) (fs : Bool) (lf : Nat → Int64) (hf : Nat → Int64) (em : Bool) (le : Int64) (gr : Int64) (cd2 : Nat → Int32) (n2 : Nat) (rt2 : Nat) (sc2 : Bool) (on2 : Nat → Bool) (lo2 : Nat → Int64) (hi2 : Nat → Int64) (non : Nat → Bool) (nlo : Nat → Int64) (nhi : Nat → Int64) (fl : Nat → Bool) (tlo : Nat → Int64) (thi : Nat → Int64) (le2 : Int64) (gr2 : Int64) : va_W := [cObj (h3 0) 3 [.ref (h3 1), .int (nI n), .int (bI sc), .int (nI rt), .ref (h3 2), .ref (h3 6), .ref (h3 10), .ref (h3 13)], cInt E (h3 1) 96 cd, cObj (h3 2) 2 [.ref (h3 3), .ref (h3 4), .ref (h3 5)], cBoo E (h3 3) 24 on, cLng E (h3 4) 96 lo, cLng E (h3 5) 96 hi, cObj (h3 6) 2 [.ref (h3 7), .ref (h3 8), .ref (h3 9)], cBoo E (h3 7) 24 son, cLng E (h3 8) 96 slo, cLng E (h3 9) 96 shi, cObj (h3 10) 0 [.int (bI fs), .ref (h3 11), .ref (h3 12)], cLng E (h3 11) 4 lf, cLng E (h3 12) 4 hf, cObj (h3 13) 1 [.int (bI em), .long le, .long gr], cObj (h4 0) 4 [.ref (h4 1), .int (nI n2), .int (nI rt2), .int (bI sc2), .ref (h4 2), .ref (h4 3), .ref (h4 4), .ref (h4 5), .ref (h4 6), .ref (h4 7), .ref (h4 8), .ref (h4 9), .ref (h4 10), .long le2, .long gr2], cInt E (h4 1) 96 cd2, cBoo E (h4 2) 24 on2, cLng E (h4 3) 96 lo2, cLng E (h4 4) 96 hi2, cBoo E (h4 5) 24 non, cLng E (h4 6) 96 nlo, cLng E (h4 7) 96 nhi, cBoo E (h4 8) 2 fl, cLng E (h4 9) 8 tlo, cLng E (h4 10) 8 thi]
theorem zm_L_law_k7 : (Cond.classLink RL 7 RX3 : Cond) ∈ wsL_law := by decide +kernel
theorem zm_L_law_iX3 : (Cond.instantiable RX3 8 : Cond) ∈ wsL_law := by decide +kernel
theorem zm_L_law_nX3 : (Cond.initialized RX3 : Cond) ∈ wsL_law := by decide +kernel
theorem zm_L_law_mX3 : (Cond.instanceMethod yX3_init : Cond) ∈ wsL_law := by decide +kernel
theorem zm_L_law_lX3 : (Cond.methodLink RL 9 yX3_init : Cond) ∈ wsL_law := by decide +kernel
theorem zm_L_law_k10 : (Cond.classLink RL 10 RX4 : Cond) ∈ wsL_law := by decide +kernel
theorem zm_L_law_iX4 : (Cond.instantiable RX4 15 : Cond) ∈ wsL_law := by decide +kernel
theorem zm_L_law_nX4 : (Cond.initialized RX4 : Cond) ∈ wsL_law := by decide +kernel
theorem zm_L_law_mX4 : (Cond.instanceMethod yX4_init : Cond) ∈ wsL_law := by decide +kernel
theorem zm_L_law_lX4 : (Cond.methodLink RL 12 yX4_init : Cond) ∈ wsL_law := by decide +kernel
set_option maxHeartbeats 4000000 in
set_option maxRecDepth 100000 in
theorem law_body {g : kG} {E : kE} {l : Launch} {b L : Nat} {xs : Nat → Int32} (hL : L ≤ 2560) (F : kF g E l room_1 cL_law RL wsL_law 4) (X : kX g b L xs) (hLw : kLw g b) (Zz : kZg g) : kK g [] [(0, .ref b)] 0 0 0 [] := by
  refine k_new F (pc := 0) (C := RX3) (T := TX3) (N := 8) (ci := 3) [.null, .int (nI 0), .int (bI false), .int (nI 0), .null, .null, .null, .null] tyX3 dL_law_0 inlX3 tyX3_ok zm_L_law_k7 zm_L_law_iX3 zm_L_law_nX3 rfl (fun j hj => by rcases (show j = 0 ∨ j = 1 ∨ j = 2 ∨ j = 3 ∨ j = 4 ∨ j = 5 ∨ j = 6 ∨ j = 7 by omega) with rfl | rfl | rfl | rfl | rfl | rfl | rfl | rfl <;> rfl) (by decide) (by decide) (fun q_1 => ?_)
  show kK g [cObj q_1 3 [.null, .int (nI 0), .int (bI false), .int (nI 0), .null, .null, .null, .null]] [(0, .ref b)] 1 8 3 [.ref q_1]
  refine k_dup F (pc := 3) dL_law_3 rfl ?_
  refine k_callIZ F Zz (pc := 4) [] [.ref q_1] 0 [cObj q_1 3 [.null, .int (nI 0), .int (bI false), .int (nI 0), .null, .null, .null, .null]] [] [0] [] (m_X3_init l E q_1) dL_law_4 gL_law_X3_init rfl (by decide +kernel) rfl rfl zm_L_law_nX3 zm_L_law_mX3 zm_L_law_lX3 ⟨rfl, rfl⟩ (by decide) rfl (Nat.le_of_ble_eq_true rfl) (by decide) rfl rfl (by decide) (by decide) (by decide) ?_
  rintro v_2 w_3 ⟨h3, hhh3, rfl, rfl⟩
  subst hhh3
  show kK g [cObj (h3 0) 3 [.ref (h3 1), .int (nI 0), .int (bI false), .int (nI 0), .ref (h3 2), .ref (h3 6), .ref (h3 10), .ref (h3 13)], cInt E (h3 1) 96 (fun _ => 0), cObj (h3 2) 2 [.ref (h3 3), .ref (h3 4), .ref (h3 5)], cBoo E (h3 3) 24 (fun _ => false), cLng E (h3 4) 96 (fun _ => 0), cLng E (h3 5) 96 (fun _ => 0), cObj (h3 6) 2 [.ref (h3 7), .ref (h3 8), .ref (h3 9)], cBoo E (h3 7) 24 (fun _ => false), cLng E (h3 8) 96 (fun _ => 0), cLng E (h3 9) 96 (fun _ => 0), cObj (h3 10) 0 [.int (bI false), .ref (h3 11), .ref (h3 12)], cLng E (h3 11) 4 (fun _ => 0), cLng E (h3 12) 4 (fun _ => 0), cObj (h3 13) 1 [.int (bI true), .long 0, .long 0]] [(0, .ref b)] 14 556 7 [.ref (h3 0)]
  refine k_astore_n F (pc := 7) [(1, .ref (h3 0)), (0, .ref b)] dL_law_7 rfl (by decide) rfl ?_
  refine k_new F (pc := 8) (C := RX4) (T := TX4) (N := 15) (ci := 4) [.null, .int (nI 0), .int (nI 0), .int (bI false), .null, .null, .null, .null, .null, .null, .null, .null, .null, .long 0, .long 0] tyX4 dL_law_8 inlX4 tyX4_ok zm_L_law_k10 zm_L_law_iX4 zm_L_law_nX4 rfl (fun j hj => by rcases (show j = 0 ∨ j = 1 ∨ j = 2 ∨ j = 3 ∨ j = 4 ∨ j = 5 ∨ j = 6 ∨ j = 7 ∨ j = 8 ∨ j = 9 ∨ j = 10 ∨ j = 11 ∨ j = 12 ∨ j = 13 ∨ j = 14 by omega) with rfl | rfl | rfl | rfl | rfl | rfl | rfl | rfl | rfl | rfl | rfl | rfl | rfl | rfl | rfl <;> rfl) (by decide) (by decide) (fun q_4 => ?_)
  show kK g [cObj (h3 0) 3 [.ref (h3 1), .int (nI 0), .int (bI false), .int (nI 0), .ref (h3 2), .ref (h3 6), .ref (h3 10), .ref (h3 13)], cInt E (h3 1) 96 (fun _ => 0), cObj (h3 2) 2 [.ref (h3 3), .ref (h3 4), .ref (h3 5)], cBoo E (h3 3) 24 (fun _ => false), cLng E (h3 4) 96 (fun _ => 0), cLng E (h3 5) 96 (fun _ => 0), cObj (h3 6) 2 [.ref (h3 7), .ref (h3 8), .ref (h3 9)], cBoo E (h3 7) 24 (fun _ => false), cLng E (h3 8) 96 (fun _ => 0), cLng E (h3 9) 96 (fun _ => 0), cObj (h3 10) 0 [.int (bI false), .ref (h3 11), .ref (h3 12)], cLng E (h3 11) 4 (fun _ => 0), cLng E (h3 12) 4 (fun _ => 0), cObj (h3 13) 1 [.int (bI true), .long 0, .long 0], cObj q_4 4 [.null, .int (nI 0), .int (nI 0), .int (bI false), .null, .null, .null, .null, .null, .null, .null, .null, .null, .long 0, .long 0]] [(1, .ref (h3 0)), (0, .ref b)] 15 571 11 [.ref q_4]
  refine k_dup F (pc := 11) dL_law_11 rfl ?_
  refine k_callI F (pc := 12) [] [.ref q_4] 0 [cObj q_4 4 [.null, .int (nI 0), .int (nI 0), .int (bI false), .null, .null, .null, .null, .null, .null, .null, .null, .null, .long 0, .long 0]] [cObj (h3 0) 3 [.ref (h3 1), .int (nI 0), .int (bI false), .int (nI 0), .ref (h3 2), .ref (h3 6), .ref (h3 10), .ref (h3 13)], cInt E (h3 1) 96 (fun _ => 0), cObj (h3 2) 2 [.ref (h3 3), .ref (h3 4), .ref (h3 5)], cBoo E (h3 3) 24 (fun _ => false), cLng E (h3 4) 96 (fun _ => 0), cLng E (h3 5) 96 (fun _ => 0), cObj (h3 6) 2 [.ref (h3 7), .ref (h3 8), .ref (h3 9)], cBoo E (h3 7) 24 (fun _ => false), cLng E (h3 8) 96 (fun _ => 0), cLng E (h3 9) 96 (fun _ => 0), cObj (h3 10) 0 [.int (bI false), .ref (h3 11), .ref (h3 12)], cLng E (h3 11) 4 (fun _ => 0), cLng E (h3 12) 4 (fun _ => 0), cObj (h3 13) 1 [.int (bI true), .long 0, .long 0]] [14] [0, 1, 2, 3, 4, 5, 6, 7, 8, 9, 10, 11, 12, 13] (m_X4_init l E q_4) dL_law_12 gL_law_X4_init rfl (by decide +kernel) rfl rfl zm_L_law_nX4 zm_L_law_mX4 zm_L_law_lX4 ⟨rfl, rfl⟩ (by decide) rfl (Nat.le_of_ble_eq_true rfl) (by decide) rfl rfl (by decide) (by decide) (by decide) ?_
  rintro v_5 w_6 ⟨h4, hhh4, rfl, rfl⟩
  subst hhh4
  show kK g [cObj (h3 0) 3 [.ref (h3 1), .int (nI 0), .int (bI false), .int (nI 0), .ref (h3 2), .ref (h3 6), .ref (h3 10), .ref (h3 13)], cInt E (h3 1) 96 (fun _ => 0), cObj (h3 2) 2 [.ref (h3 3), .ref (h3 4), .ref (h3 5)], cBoo E (h3 3) 24 (fun _ => false), cLng E (h3 4) 96 (fun _ => 0), cLng E (h3 5) 96 (fun _ => 0), cObj (h3 6) 2 [.ref (h3 7), .ref (h3 8), .ref (h3 9)], cBoo E (h3 7) 24 (fun _ => false), cLng E (h3 8) 96 (fun _ => 0), cLng E (h3 9) 96 (fun _ => 0), cObj (h3 10) 0 [.int (bI false), .ref (h3 11), .ref (h3 12)], cLng E (h3 11) 4 (fun _ => 0), cLng E (h3 12) 4 (fun _ => 0), cObj (h3 13) 1 [.int (bI true), .long 0, .long 0], cObj (h4 0) 4 [.ref (h4 1), .int (nI 0), .int (nI 0), .int (bI false), .ref (h4 2), .ref (h4 3), .ref (h4 4), .ref (h4 5), .ref (h4 6), .ref (h4 7), .ref (h4 8), .ref (h4 9), .ref (h4 10), .long 0, .long 0], cInt E (h4 1) 96 (fun _ => 0), cBoo E (h4 2) 24 (fun _ => false), cLng E (h4 3) 96 (fun _ => 0), cLng E (h4 4) 96 (fun _ => 0), cBoo E (h4 5) 24 (fun _ => false), cLng E (h4 6) 96 (fun _ => 0), cLng E (h4 7) 96 (fun _ => 0), cBoo E (h4 8) 2 (fun _ => false), cLng E (h4 9) 8 (fun _ => 0), cLng E (h4 10) 8 (fun _ => 0)] [(1, .ref (h3 0)), (0, .ref b)] 25 1117 15 [.ref (h4 0)]
  refine k_astore_n F (pc := 15) [(2, .ref (h4 0)), (1, .ref (h3 0)), (0, .ref b)] dL_law_15 rfl (by decide) rfl ?_
  show kK g (wL E h3 h4 (fun _ => 0) 0 false 0 (fun _ => false) (fun _ => 0) (fun _ => 0) (fun _ => false) (fun _ => 0) (fun _ => 0) false (fun _ => 0) (fun _ => 0) true 0 0 (fun _ => 0) 0 0 false (fun _ => false) (fun _ => 0) (fun _ => 0) (fun _ => false) (fun _ => 0) (fun _ => 0) (fun _ => false) (fun _ => 0) (fun _ => 0) 0 0) [(2, .ref (h4 0)), (1, .ref (h3 0)), (0, .ref b)] 25 1117 16 []
  refine k_iconst F (pc := 16) ((nI 0)) dL_law_16 (by decide) ?_
  refine k_istore_n F (pc := 17) [(3, .int (nI 0)), (2, .ref (h4 0)), (1, .ref (h3 0)), (0, .ref b)] dL_law_17 rfl (by decide) rfl ?_
  have L18 : ∀ (d_ : Nat) (i : Nat) (cd0 : Nat → Int32) (n0 : Nat) (sc0 : Bool) (rt0 : Nat) (on_ : Nat → Bool) (lo_ : Nat → Int64) (hi_ : Nat → Int64) (son_ : Nat → Bool) (slo_ : Nat → Int64) (shi_ : Nat → Int64) (fs_ : Bool) (lf_ : Nat → Int64) (hf_ : Nat → Int64) (em_ : Bool) (le_ : Int64) (gr_ : Int64) (on2_ : Nat → Bool) (lo2_ : Nat → Int64) (hi2_ : Nat → Int64) (non_ : Nat → Bool) (nlo_ : Nat → Int64) (nhi_ : Nat → Int64) (fl_ : Nat → Bool) (tlo_ : Nat → Int64) (thi_ : Nat → Int64) (le2_ : Int64) (gr2_ : Int64), L + 6 - i < d_ → (i ≤ L + 5) → (n0 ≤ 24) → (∀ p, p < n0 → okP cd0 p) → (twoR sc0 son_ on2_ slo_ shi_ lo2_ hi2_) → kK g (wL E h3 h4 cd0 n0 sc0 rt0 on_ lo_ hi_ son_ slo_ shi_ fs_ lf_ hf_ em_ le_ gr_ cd0 n0 rt0 sc0 on2_ lo2_ hi2_ non_ nlo_ nhi_ fl_ tlo_ thi_ le2_ gr2_) [(0, .ref b), (1, .ref (h3 0)), (2, .ref (h4 0)), (3, .int (nI i))] 25 1117 18 [] := by
    intro d_
    induction d_ with
    | zero => intro i cd0 n0 sc0 rt0 on_ lo_ hi_ son_ slo_ shi_ fs_ lf_ hf_ em_ le_ gr_ on2_ lo2_ hi2_ non_ nlo_ nhi_ fl_ tlo_ thi_ le2_ gr2_ hm; exact absurd hm (Nat.not_lt_zero _)
    | succ d_ ih18 =>
      intro i cd0 n0 sc0 rt0 on_ lo_ hi_ son_ slo_ shi_ fs_ lf_ hf_ em_ le_ gr_ on2_ lo2_ hi2_ non_ nlo_ nhi_ fl_ tlo_ thi_ le2_ gr2_ hm18 hiL hn0 hok hsc
      refine k_iload_n F (pc := 18) 3 rfl dL_law_18 rfl ?_
      refine k_aload_n F (pc := 19) 0 rfl dL_law_19 rfl ?_
      refine k_slen F X (pc := 20) dL_law_20 ?_
      refine k_iconst F (pc := 21) ((nI 5)) dL_law_21 (by decide) ?_
      refine k_isub F (pc := 22) dL_law_22 ?_
      refine k_icmp_gt F (pc := 23) 344 dL_law_23 (by decide) (nI_toInt (by omega)) (pk_sub_toInt (by omega) (by omega)) (fun c_7 => ?_) (fun c_7 => ?_)
      · skip
        refine k_iconst F (pc := 344) ((nI 1)) dL_law_344 (by decide) ?_
        exact k_lawret F hLw dL_law_345
      · skip
        refine k_aload_n F (pc := 26) 0 rfl dL_law_26 rfl ?_
        refine k_iload_n F (pc := 27) 3 rfl dL_law_27 rfl ?_
        refine k_sld F X (pc := 28) dL_law_28 (by omega) (by omega) ?_
        refine k_bipush F (pc := 29) ((nI 15)) dL_law_29 (by decide) ?_
        refine k_iand F (pc := 31) dL_law_31 ?_
        by_cases c_8 : ((xs i) &&& (nI 15)).toInt = 0
        · skip
          refine k_tabIn F (pc := 32) 0 88 dL_law_32 c_8 (by decide) (by decide) rfl (by decide) ?_
          refine k_aload_n F (pc := 88) 1 rfl dL_law_88 rfl ?_
          refine k_aload_n F (pc := 89) 0 rfl dL_law_89 rfl ?_
          refine k_iload_n F (pc := 90) 3 rfl dL_law_90 rfl ?_
          refine k_iconst F (pc := 91) ((nI 1)) dL_law_91 (by decide) ?_
          refine k_iaddN F (pc := 92) dL_law_92 ?_
          refine k_sld F X (pc := 93) dL_law_93 (by omega) (by omega) ?_
          refine k_aload_n F (pc := 94) 0 rfl dL_law_94 rfl ?_
          refine k_iload_n F (pc := 95) 3 rfl dL_law_95 rfl ?_
          refine k_iconst F (pc := 96) ((nI 2)) dL_law_96 (by decide) ?_
          refine k_iaddN F (pc := 97) dL_law_97 ?_
          refine k_sld F X (pc := 98) dL_law_98 (by omega) (by omega) ?_
          refine k_aload_n F (pc := 99) 0 rfl dL_law_99 rfl ?_
          refine k_iload_n F (pc := 100) 3 rfl dL_law_100 rfl ?_
          refine k_iconst F (pc := 101) ((nI 3)) dL_law_101 (by decide) ?_
          refine k_iaddN F (pc := 102) dL_law_102 ?_
          refine k_sld F X (pc := 103) dL_law_103 (by omega) (by omega) ?_
          refine k_aload_n F (pc := 104) 0 rfl dL_law_104 rfl ?_
          refine k_iload_n F (pc := 105) 3 rfl dL_law_105 rfl ?_
          refine k_iconst F (pc := 106) ((nI 4)) dL_law_106 (by decide) ?_
          refine k_iaddN F (pc := 107) dL_law_107 ?_
          refine k_sld F X (pc := 108) dL_law_108 (by omega) (by omega) ?_
          refine k_callV F (pc := 109) (C := RX3) (T := TX3) (N := 8) (ci := 3) [.int (xs (i + 1)), .int (xs (i + 2)), .int (xs (i + 3)), .int (xs (i + 4))] [] 4 (wX3 E h3 cd0 n0 sc0 rt0 on_ lo_ hi_ son_ slo_ shi_ fs_ lf_ hf_ em_ le_ gr_) [cObj (h4 0) 4 [.ref (h4 1), .int (nI n0), .int (nI rt0), .int (bI sc0), .ref (h4 2), .ref (h4 3), .ref (h4 4), .ref (h4 5), .ref (h4 6), .ref (h4 7), .ref (h4 8), .ref (h4 9), .ref (h4 10), .long le2_, .long gr2_], cInt E (h4 1) 96 cd0, cBoo E (h4 2) 24 on2_, cLng E (h4 3) 96 lo2_, cLng E (h4 4) 96 hi2_, cBoo E (h4 5) 24 non_, cLng E (h4 6) 96 nlo_, cLng E (h4 7) 96 nhi_, cBoo E (h4 8) 2 fl_, cLng E (h4 9) 8 tlo_, cLng E (h4 10) 8 thi_] [0, 1, 2, 3, 4, 5, 6, 7, 8, 9, 10, 11, 12, 13] [14, 15, 16, 17, 18, 19, 20, 21, 22, 23, 24] (m_X3_add l E h3 cd0 n0 sc0 rt0 on_ lo_ hi_ son_ slo_ shi_ fs_ lf_ hf_ em_ le_ gr_ (xs (i + 1)) (xs (i + 2)) (xs (i + 3)) (xs (i + 4)) (by omega)) dL_law_109 gL_law_X3_add rfl (by decide +kernel) rfl ⟨rfl, rfl⟩ (by decide) rfl (Nat.le_of_ble_eq_true rfl) (by decide) rfl rfl rfl rfl (by decide) (by decide) (by decide) ?_
          rintro v_14 w_15 ⟨r_9, cd1_10, n1_11, sc1_12, rt1_13, rfl, rfl, ha1⟩
          refine k_perm (wL E h3 h4 cd1_10 n1_11 sc1_12 rt1_13 on_ lo_ hi_ son_ slo_ shi_ fs_ lf_ hf_ em_ le_ gr_ cd0 n0 rt0 sc0 on2_ lo2_ hi2_ non_ nlo_ nhi_ fl_ tlo_ thi_ le2_ gr2_) [11, 12, 13, 14, 15, 16, 17, 18, 19, 20, 21, 22, 23, 24, 0, 1, 2, 3, 4, 5, 6, 7, 8, 9, 10] (by decide) rfl ?_
          show kK g (wL E h3 h4 cd1_10 n1_11 sc1_12 rt1_13 on_ lo_ hi_ son_ slo_ shi_ fs_ lf_ hf_ em_ le_ gr_ cd0 n0 rt0 sc0 on2_ lo2_ hi2_ non_ nlo_ nhi_ fl_ tlo_ thi_ le2_ gr2_) [(0, .ref b), (1, .ref (h3 0)), (2, .ref (h4 0)), (3, .int (nI i))] 25 1117 112 [.int r_9]
          refine k_aload_n F (pc := 112) 2 rfl dL_law_112 rfl ?_
          refine k_aload_n F (pc := 113) 0 rfl dL_law_113 rfl ?_
          refine k_iload_n F (pc := 114) 3 rfl dL_law_114 rfl ?_
          refine k_iconst F (pc := 115) ((nI 1)) dL_law_115 (by decide) ?_
          refine k_iaddN F (pc := 116) dL_law_116 ?_
          refine k_sld F X (pc := 117) dL_law_117 (by omega) (by omega) ?_
          refine k_aload_n F (pc := 118) 0 rfl dL_law_118 rfl ?_
          refine k_iload_n F (pc := 119) 3 rfl dL_law_119 rfl ?_
          refine k_iconst F (pc := 120) ((nI 2)) dL_law_120 (by decide) ?_
          refine k_iaddN F (pc := 121) dL_law_121 ?_
          refine k_sld F X (pc := 122) dL_law_122 (by omega) (by omega) ?_
          refine k_aload_n F (pc := 123) 0 rfl dL_law_123 rfl ?_
          refine k_iload_n F (pc := 124) 3 rfl dL_law_124 rfl ?_
          refine k_iconst F (pc := 125) ((nI 3)) dL_law_125 (by decide) ?_
          refine k_iaddN F (pc := 126) dL_law_126 ?_
          refine k_sld F X (pc := 127) dL_law_127 (by omega) (by omega) ?_
          refine k_aload_n F (pc := 128) 0 rfl dL_law_128 rfl ?_
          refine k_iload_n F (pc := 129) 3 rfl dL_law_129 rfl ?_
          refine k_iconst F (pc := 130) ((nI 4)) dL_law_130 (by decide) ?_
          refine k_iaddN F (pc := 131) dL_law_131 ?_
          refine k_sld F X (pc := 132) dL_law_132 (by omega) (by omega) ?_
          refine k_callV F (pc := 133) (C := RX4) (T := TX4) (N := 15) (ci := 4) [.int (xs (i + 1)), .int (xs (i + 2)), .int (xs (i + 3)), .int (xs (i + 4))] [.int r_9] 4 (wX4 E h4 cd0 n0 rt0 sc0 on2_ lo2_ hi2_ non_ nlo_ nhi_ fl_ tlo_ thi_ le2_ gr2_) [cObj (h3 0) 3 [.ref (h3 1), .int (nI n1_11), .int (bI sc1_12), .int (nI rt1_13), .ref (h3 2), .ref (h3 6), .ref (h3 10), .ref (h3 13)], cInt E (h3 1) 96 cd1_10, cObj (h3 2) 2 [.ref (h3 3), .ref (h3 4), .ref (h3 5)], cBoo E (h3 3) 24 on_, cLng E (h3 4) 96 lo_, cLng E (h3 5) 96 hi_, cObj (h3 6) 2 [.ref (h3 7), .ref (h3 8), .ref (h3 9)], cBoo E (h3 7) 24 son_, cLng E (h3 8) 96 slo_, cLng E (h3 9) 96 shi_, cObj (h3 10) 0 [.int (bI fs_), .ref (h3 11), .ref (h3 12)], cLng E (h3 11) 4 lf_, cLng E (h3 12) 4 hf_, cObj (h3 13) 1 [.int (bI em_), .long le_, .long gr_]] [14, 15, 16, 17, 18, 19, 20, 21, 22, 23, 24] [0, 1, 2, 3, 4, 5, 6, 7, 8, 9, 10, 11, 12, 13] (m_X4_add l E h4 cd0 n0 rt0 sc0 on2_ lo2_ hi2_ non_ nlo_ nhi_ fl_ tlo_ thi_ le2_ gr2_ (xs (i + 1)) (xs (i + 2)) (xs (i + 3)) (xs (i + 4)) (by omega)) dL_law_133 gL_law_X4_add rfl (by decide +kernel) rfl ⟨rfl, rfl⟩ (by decide) rfl (Nat.le_of_ble_eq_true rfl) (by decide) rfl rfl rfl rfl (by decide) (by decide) (by decide) ?_
          rintro v_21 w_22 ⟨r_16, cd1_17, n1_18, sc1_19, rt1_20, rfl, rfl, ha2⟩
          refine k_perm (wL E h3 h4 cd1_10 n1_11 sc1_12 rt1_13 on_ lo_ hi_ son_ slo_ shi_ fs_ lf_ hf_ em_ le_ gr_ cd1_17 n1_18 rt1_20 sc1_19 on2_ lo2_ hi2_ non_ nlo_ nhi_ fl_ tlo_ thi_ le2_ gr2_) [0, 1, 2, 3, 4, 5, 6, 7, 8, 9, 10, 11, 12, 13, 14, 15, 16, 17, 18, 19, 20, 21, 22, 23, 24] (by decide) rfl ?_
          show kK g (wL E h3 h4 cd1_10 n1_11 sc1_12 rt1_13 on_ lo_ hi_ son_ slo_ shi_ fs_ lf_ hf_ em_ le_ gr_ cd1_17 n1_18 rt1_20 sc1_19 on2_ lo2_ hi2_ non_ nlo_ nhi_ fl_ tlo_ thi_ le2_ gr2_) [(0, .ref b), (1, .ref (h3 0)), (2, .ref (h4 0)), (3, .int (nI i))] 25 1117 136 [.int r_16, .int r_9]
          obtain ⟨hr, rfl, rfl, rfl, rfl⟩ := addP_det ha1 ha2
          obtain ⟨hn1, hok1⟩ := add_ok ha1 hn0 hok
          have hsc1 : twoR sc1_12 son_ on2_ slo_ shi_ lo2_ hi2_ := fun h => hsc (add_sc ha1 h)
          refine k_icmp_eq F (pc := 136) 338 dL_law_136 (by decide) rfl rfl (fun c_23 => ?_) (fun c_23 => ?_)
          · skip
            refine k_iinc F (pc := 338) 3 ((nI (i + 5))) [(3, .int (nI (i + 5))), (0, .ref b), (1, .ref (h3 0)), (2, .ref (h4 0))] dL_law_338 rfl (nI_add i 5) (by decide) rfl ?_
            refine k_goto F (pc := 341) 18 dL_law_341 (by decide) ?_
            refine k_lv [(0, .ref b), (1, .ref (h3 0)), (2, .ref (h4 0)), (3, .int (nI (i + 5)))] [1, 2, 3, 0] rfl ?_
            exact ih18 (i + 5) cd1_10 n1_11 sc1_12 rt1_13 on_ lo_ hi_ son_ slo_ shi_ fs_ lf_ hf_ em_ le_ gr_ on2_ lo2_ hi2_ non_ nlo_ nhi_ fl_ tlo_ thi_ le2_ gr2_ (by omega) (by omega) (by first | exact hn1 | exact hn0 | omega) (by first | exact hok1 | exact hok | (intro p hp; omega)) (by first | exact hsc1 | exact hsc | (intro h; cases h))
          · skip
            exact absurd (congrArg Int32.toInt hr) c_23
        by_cases c_24 : ((xs i) &&& (nI 15)).toInt = 1
        · skip
          refine k_tabIn F (pc := 32) 1 141 dL_law_32 c_24 (by decide) (by decide) rfl (by decide) ?_
          refine k_aload_n F (pc := 141) 1 rfl dL_law_141 rfl ?_
          refine k_callV F (pc := 142) (C := RX3) (T := TX3) (N := 8) (ci := 3) [] [] 0 (wX3 E h3 cd0 n0 sc0 rt0 on_ lo_ hi_ son_ slo_ shi_ fs_ lf_ hf_ em_ le_ gr_) [cObj (h4 0) 4 [.ref (h4 1), .int (nI n0), .int (nI rt0), .int (bI sc0), .ref (h4 2), .ref (h4 3), .ref (h4 4), .ref (h4 5), .ref (h4 6), .ref (h4 7), .ref (h4 8), .ref (h4 9), .ref (h4 10), .long le2_, .long gr2_], cInt E (h4 1) 96 cd0, cBoo E (h4 2) 24 on2_, cLng E (h4 3) 96 lo2_, cLng E (h4 4) 96 hi2_, cBoo E (h4 5) 24 non_, cLng E (h4 6) 96 nlo_, cLng E (h4 7) 96 nhi_, cBoo E (h4 8) 2 fl_, cLng E (h4 9) 8 tlo_, cLng E (h4 10) 8 thi_] [0, 1, 2, 3, 4, 5, 6, 7, 8, 9, 10, 11, 12, 13] [14, 15, 16, 17, 18, 19, 20, 21, 22, 23, 24] (m_X3_clear l E h3 cd0 n0 sc0 rt0 on_ lo_ hi_ son_ slo_ shi_ fs_ lf_ hf_ em_ le_ gr_) dL_law_142 gL_law_X3_clear rfl (by decide +kernel) rfl ⟨rfl, rfl⟩ (by decide) rfl (Nat.le_of_ble_eq_true rfl) (by decide) rfl rfl rfl rfl (by decide) (by decide) (by decide) ?_
          rintro v_25 w_26 ⟨rfl, rfl⟩
          refine k_perm (wL E h3 h4 cd0 0 false 0 on_ lo_ hi_ son_ slo_ shi_ fs_ lf_ hf_ em_ le_ gr_ cd0 n0 rt0 sc0 on2_ lo2_ hi2_ non_ nlo_ nhi_ fl_ tlo_ thi_ le2_ gr2_) [11, 12, 13, 14, 15, 16, 17, 18, 19, 20, 21, 22, 23, 24, 0, 1, 2, 3, 4, 5, 6, 7, 8, 9, 10] (by decide) rfl ?_
          show kK g (wL E h3 h4 cd0 0 false 0 on_ lo_ hi_ son_ slo_ shi_ fs_ lf_ hf_ em_ le_ gr_ cd0 n0 rt0 sc0 on2_ lo2_ hi2_ non_ nlo_ nhi_ fl_ tlo_ thi_ le2_ gr2_) [(0, .ref b), (1, .ref (h3 0)), (2, .ref (h4 0)), (3, .int (nI i))] 25 1117 145 []
          refine k_aload_n F (pc := 145) 2 rfl dL_law_145 rfl ?_
          refine k_callV F (pc := 146) (C := RX4) (T := TX4) (N := 15) (ci := 4) [] [] 0 (wX4 E h4 cd0 n0 rt0 sc0 on2_ lo2_ hi2_ non_ nlo_ nhi_ fl_ tlo_ thi_ le2_ gr2_) [cObj (h3 0) 3 [.ref (h3 1), .int (nI 0), .int (bI false), .int (nI 0), .ref (h3 2), .ref (h3 6), .ref (h3 10), .ref (h3 13)], cInt E (h3 1) 96 cd0, cObj (h3 2) 2 [.ref (h3 3), .ref (h3 4), .ref (h3 5)], cBoo E (h3 3) 24 on_, cLng E (h3 4) 96 lo_, cLng E (h3 5) 96 hi_, cObj (h3 6) 2 [.ref (h3 7), .ref (h3 8), .ref (h3 9)], cBoo E (h3 7) 24 son_, cLng E (h3 8) 96 slo_, cLng E (h3 9) 96 shi_, cObj (h3 10) 0 [.int (bI fs_), .ref (h3 11), .ref (h3 12)], cLng E (h3 11) 4 lf_, cLng E (h3 12) 4 hf_, cObj (h3 13) 1 [.int (bI em_), .long le_, .long gr_]] [14, 15, 16, 17, 18, 19, 20, 21, 22, 23, 24] [0, 1, 2, 3, 4, 5, 6, 7, 8, 9, 10, 11, 12, 13] (m_X4_clear l E h4 cd0 n0 rt0 sc0 on2_ lo2_ hi2_ non_ nlo_ nhi_ fl_ tlo_ thi_ le2_ gr2_) dL_law_146 gL_law_X4_clear rfl (by decide +kernel) rfl ⟨rfl, rfl⟩ (by decide) rfl (Nat.le_of_ble_eq_true rfl) (by decide) rfl rfl rfl rfl (by decide) (by decide) (by decide) ?_
          rintro v_27 w_28 ⟨rfl, rfl⟩
          refine k_perm (wL E h3 h4 cd0 0 false 0 on_ lo_ hi_ son_ slo_ shi_ fs_ lf_ hf_ em_ le_ gr_ cd0 0 0 false on2_ lo2_ hi2_ non_ nlo_ nhi_ fl_ tlo_ thi_ le2_ gr2_) [0, 1, 2, 3, 4, 5, 6, 7, 8, 9, 10, 11, 12, 13, 14, 15, 16, 17, 18, 19, 20, 21, 22, 23, 24] (by decide) rfl ?_
          show kK g (wL E h3 h4 cd0 0 false 0 on_ lo_ hi_ son_ slo_ shi_ fs_ lf_ hf_ em_ le_ gr_ cd0 0 0 false on2_ lo2_ hi2_ non_ nlo_ nhi_ fl_ tlo_ thi_ le2_ gr2_) [(0, .ref b), (1, .ref (h3 0)), (2, .ref (h4 0)), (3, .int (nI i))] 25 1117 149 []
          refine k_goto F (pc := 149) 338 dL_law_149 (by decide) ?_
          refine k_iinc F (pc := 338) 3 ((nI (i + 5))) [(3, .int (nI (i + 5))), (0, .ref b), (1, .ref (h3 0)), (2, .ref (h4 0))] dL_law_338 rfl (nI_add i 5) (by decide) rfl ?_
          refine k_goto F (pc := 341) 18 dL_law_341 (by decide) ?_
          refine k_lv [(0, .ref b), (1, .ref (h3 0)), (2, .ref (h4 0)), (3, .int (nI (i + 5)))] [1, 2, 3, 0] rfl ?_
          exact ih18 (i + 5) cd0 0 false 0 on_ lo_ hi_ son_ slo_ shi_ fs_ lf_ hf_ em_ le_ gr_ on2_ lo2_ hi2_ non_ nlo_ nhi_ fl_ tlo_ thi_ le2_ gr2_ (by omega) (by omega) (by first | exact hn1 | exact hn0 | omega) (by first | exact hok1 | exact hok | (intro p hp; omega)) (by first | exact hsc1 | exact hsc | (intro h; cases h))
        by_cases c_29 : ((xs i) &&& (nI 15)).toInt = 2
        · skip
          refine k_tabIn F (pc := 32) 2 152 dL_law_32 c_29 (by decide) (by decide) rfl (by decide) ?_
          refine k_aload_n F (pc := 152) 1 rfl dL_law_152 rfl ?_
          refine k_callV F (pc := 153) (C := RX3) (T := TX3) (N := 8) (ci := 3) [] [] 0 (wX3 E h3 cd0 n0 sc0 rt0 on_ lo_ hi_ son_ slo_ shi_ fs_ lf_ hf_ em_ le_ gr_) [cObj (h4 0) 4 [.ref (h4 1), .int (nI n0), .int (nI rt0), .int (bI sc0), .ref (h4 2), .ref (h4 3), .ref (h4 4), .ref (h4 5), .ref (h4 6), .ref (h4 7), .ref (h4 8), .ref (h4 9), .ref (h4 10), .long le2_, .long gr2_], cInt E (h4 1) 96 cd0, cBoo E (h4 2) 24 on2_, cLng E (h4 3) 96 lo2_, cLng E (h4 4) 96 hi2_, cBoo E (h4 5) 24 non_, cLng E (h4 6) 96 nlo_, cLng E (h4 7) 96 nhi_, cBoo E (h4 8) 2 fl_, cLng E (h4 9) 8 tlo_, cLng E (h4 10) 8 thi_] [0, 1, 2, 3, 4, 5, 6, 7, 8, 9, 10, 11, 12, 13] [14, 15, 16, 17, 18, 19, 20, 21, 22, 23, 24] (m_X3_size l E h3 cd0 n0 sc0 rt0 on_ lo_ hi_ son_ slo_ shi_ fs_ lf_ hf_ em_ le_ gr_) dL_law_153 gL_law_X3_size rfl (by decide +kernel) rfl ⟨rfl, rfl⟩ (by decide) rfl (Nat.le_of_ble_eq_true rfl) (by decide) rfl rfl rfl rfl (by decide) (by decide) (by decide) ?_
          rintro v_30 w_31 ⟨rfl, rfl⟩
          refine k_perm (wL E h3 h4 cd0 n0 sc0 rt0 on_ lo_ hi_ son_ slo_ shi_ fs_ lf_ hf_ em_ le_ gr_ cd0 n0 rt0 sc0 on2_ lo2_ hi2_ non_ nlo_ nhi_ fl_ tlo_ thi_ le2_ gr2_) [11, 12, 13, 14, 15, 16, 17, 18, 19, 20, 21, 22, 23, 24, 0, 1, 2, 3, 4, 5, 6, 7, 8, 9, 10] (by decide) rfl ?_
          show kK g (wL E h3 h4 cd0 n0 sc0 rt0 on_ lo_ hi_ son_ slo_ shi_ fs_ lf_ hf_ em_ le_ gr_ cd0 n0 rt0 sc0 on2_ lo2_ hi2_ non_ nlo_ nhi_ fl_ tlo_ thi_ le2_ gr2_) [(0, .ref b), (1, .ref (h3 0)), (2, .ref (h4 0)), (3, .int (nI i))] 25 1117 156 [.int (nI n0)]
          refine k_aload_n F (pc := 156) 2 rfl dL_law_156 rfl ?_
          refine k_callV F (pc := 157) (C := RX4) (T := TX4) (N := 15) (ci := 4) [] [.int (nI n0)] 0 (wX4 E h4 cd0 n0 rt0 sc0 on2_ lo2_ hi2_ non_ nlo_ nhi_ fl_ tlo_ thi_ le2_ gr2_) [cObj (h3 0) 3 [.ref (h3 1), .int (nI n0), .int (bI sc0), .int (nI rt0), .ref (h3 2), .ref (h3 6), .ref (h3 10), .ref (h3 13)], cInt E (h3 1) 96 cd0, cObj (h3 2) 2 [.ref (h3 3), .ref (h3 4), .ref (h3 5)], cBoo E (h3 3) 24 on_, cLng E (h3 4) 96 lo_, cLng E (h3 5) 96 hi_, cObj (h3 6) 2 [.ref (h3 7), .ref (h3 8), .ref (h3 9)], cBoo E (h3 7) 24 son_, cLng E (h3 8) 96 slo_, cLng E (h3 9) 96 shi_, cObj (h3 10) 0 [.int (bI fs_), .ref (h3 11), .ref (h3 12)], cLng E (h3 11) 4 lf_, cLng E (h3 12) 4 hf_, cObj (h3 13) 1 [.int (bI em_), .long le_, .long gr_]] [14, 15, 16, 17, 18, 19, 20, 21, 22, 23, 24] [0, 1, 2, 3, 4, 5, 6, 7, 8, 9, 10, 11, 12, 13] (m_X4_size l E h4 cd0 n0 rt0 sc0 on2_ lo2_ hi2_ non_ nlo_ nhi_ fl_ tlo_ thi_ le2_ gr2_) dL_law_157 gL_law_X4_size rfl (by decide +kernel) rfl ⟨rfl, rfl⟩ (by decide) rfl (Nat.le_of_ble_eq_true rfl) (by decide) rfl rfl rfl rfl (by decide) (by decide) (by decide) ?_
          rintro v_32 w_33 ⟨rfl, rfl⟩
          refine k_perm (wL E h3 h4 cd0 n0 sc0 rt0 on_ lo_ hi_ son_ slo_ shi_ fs_ lf_ hf_ em_ le_ gr_ cd0 n0 rt0 sc0 on2_ lo2_ hi2_ non_ nlo_ nhi_ fl_ tlo_ thi_ le2_ gr2_) [0, 1, 2, 3, 4, 5, 6, 7, 8, 9, 10, 11, 12, 13, 14, 15, 16, 17, 18, 19, 20, 21, 22, 23, 24] (by decide) rfl ?_
          show kK g (wL E h3 h4 cd0 n0 sc0 rt0 on_ lo_ hi_ son_ slo_ shi_ fs_ lf_ hf_ em_ le_ gr_ cd0 n0 rt0 sc0 on2_ lo2_ hi2_ non_ nlo_ nhi_ fl_ tlo_ thi_ le2_ gr2_) [(0, .ref b), (1, .ref (h3 0)), (2, .ref (h4 0)), (3, .int (nI i))] 25 1117 160 [.int (nI n0), .int (nI n0)]
          refine k_icmp_eq F (pc := 160) 338 dL_law_160 (by decide) (nI_toInt (by omega)) (nI_toInt (by omega)) (fun c_34 => ?_) (fun c_34 => ?_)
          · skip
            refine k_iinc F (pc := 338) 3 ((nI (i + 5))) [(3, .int (nI (i + 5))), (0, .ref b), (1, .ref (h3 0)), (2, .ref (h4 0))] dL_law_338 rfl (nI_add i 5) (by decide) rfl ?_
            refine k_goto F (pc := 341) 18 dL_law_341 (by decide) ?_
            refine k_lv [(0, .ref b), (1, .ref (h3 0)), (2, .ref (h4 0)), (3, .int (nI (i + 5)))] [1, 2, 3, 0] rfl ?_
            exact ih18 (i + 5) cd0 n0 sc0 rt0 on_ lo_ hi_ son_ slo_ shi_ fs_ lf_ hf_ em_ le_ gr_ on2_ lo2_ hi2_ non_ nlo_ nhi_ fl_ tlo_ thi_ le2_ gr2_ (by omega) (by omega) (by first | exact hn1 | exact hn0 | omega) (by first | exact hok1 | exact hok | (intro p hp; omega)) (by first | exact hsc1 | exact hsc | (intro h; cases h))
          · skip
            exact absurd rfl c_34
        by_cases c_35 : ((xs i) &&& (nI 15)).toInt = 3
        · skip
          refine k_tabIn F (pc := 32) 3 165 dL_law_32 c_35 (by decide) (by decide) rfl (by decide) ?_
          refine k_aload_n F (pc := 165) 1 rfl dL_law_165 rfl ?_
          refine k_aload_n F (pc := 166) 0 rfl dL_law_166 rfl ?_
          refine k_iload_n F (pc := 167) 3 rfl dL_law_167 rfl ?_
          refine k_iconst F (pc := 168) ((nI 1)) dL_law_168 (by decide) ?_
          refine k_iaddN F (pc := 169) dL_law_169 ?_
          refine k_sld F X (pc := 170) dL_law_170 (by omega) (by omega) ?_
          refine k_aload_n F (pc := 171) 0 rfl dL_law_171 rfl ?_
          refine k_iload_n F (pc := 172) 3 rfl dL_law_172 rfl ?_
          refine k_iconst F (pc := 173) ((nI 2)) dL_law_173 (by decide) ?_
          refine k_iaddN F (pc := 174) dL_law_174 ?_
          refine k_sld F X (pc := 175) dL_law_175 (by omega) (by omega) ?_
          refine k_callV F (pc := 176) (C := RX3) (T := TX3) (N := 8) (ci := 3) [.int (xs (i + 1)), .int (xs (i + 2))] [] 2 (wX3 E h3 cd0 n0 sc0 rt0 on_ lo_ hi_ son_ slo_ shi_ fs_ lf_ hf_ em_ le_ gr_) [cObj (h4 0) 4 [.ref (h4 1), .int (nI n0), .int (nI rt0), .int (bI sc0), .ref (h4 2), .ref (h4 3), .ref (h4 4), .ref (h4 5), .ref (h4 6), .ref (h4 7), .ref (h4 8), .ref (h4 9), .ref (h4 10), .long le2_, .long gr2_], cInt E (h4 1) 96 cd0, cBoo E (h4 2) 24 on2_, cLng E (h4 3) 96 lo2_, cLng E (h4 4) 96 hi2_, cBoo E (h4 5) 24 non_, cLng E (h4 6) 96 nlo_, cLng E (h4 7) 96 nhi_, cBoo E (h4 8) 2 fl_, cLng E (h4 9) 8 tlo_, cLng E (h4 10) 8 thi_] [0, 1, 2, 3, 4, 5, 6, 7, 8, 9, 10, 11, 12, 13] [14, 15, 16, 17, 18, 19, 20, 21, 22, 23, 24] (m_X3_code l E h3 cd0 n0 sc0 rt0 on_ lo_ hi_ son_ slo_ shi_ fs_ lf_ hf_ em_ le_ gr_ (xs (i + 1)) (xs (i + 2)) (by omega)) dL_law_176 gL_law_X3_code rfl (by decide +kernel) rfl ⟨rfl, rfl⟩ (by decide) rfl (Nat.le_of_ble_eq_true rfl) (by decide) rfl rfl rfl rfl (by decide) (by decide) (by decide) ?_
          rintro v_37 w_38 ⟨r_36, rfl, rfl, h1⟩
          refine k_perm (wL E h3 h4 cd0 n0 sc0 rt0 on_ lo_ hi_ son_ slo_ shi_ fs_ lf_ hf_ em_ le_ gr_ cd0 n0 rt0 sc0 on2_ lo2_ hi2_ non_ nlo_ nhi_ fl_ tlo_ thi_ le2_ gr2_) [11, 12, 13, 14, 15, 16, 17, 18, 19, 20, 21, 22, 23, 24, 0, 1, 2, 3, 4, 5, 6, 7, 8, 9, 10] (by decide) rfl ?_
          show kK g (wL E h3 h4 cd0 n0 sc0 rt0 on_ lo_ hi_ son_ slo_ shi_ fs_ lf_ hf_ em_ le_ gr_ cd0 n0 rt0 sc0 on2_ lo2_ hi2_ non_ nlo_ nhi_ fl_ tlo_ thi_ le2_ gr2_) [(0, .ref b), (1, .ref (h3 0)), (2, .ref (h4 0)), (3, .int (nI i))] 25 1117 179 [.int r_36]
          refine k_aload_n F (pc := 179) 2 rfl dL_law_179 rfl ?_
          refine k_aload_n F (pc := 180) 0 rfl dL_law_180 rfl ?_
          refine k_iload_n F (pc := 181) 3 rfl dL_law_181 rfl ?_
          refine k_iconst F (pc := 182) ((nI 1)) dL_law_182 (by decide) ?_
          refine k_iaddN F (pc := 183) dL_law_183 ?_
          refine k_sld F X (pc := 184) dL_law_184 (by omega) (by omega) ?_
          refine k_aload_n F (pc := 185) 0 rfl dL_law_185 rfl ?_
          refine k_iload_n F (pc := 186) 3 rfl dL_law_186 rfl ?_
          refine k_iconst F (pc := 187) ((nI 2)) dL_law_187 (by decide) ?_
          refine k_iaddN F (pc := 188) dL_law_188 ?_
          refine k_sld F X (pc := 189) dL_law_189 (by omega) (by omega) ?_
          refine k_callV F (pc := 190) (C := RX4) (T := TX4) (N := 15) (ci := 4) [.int (xs (i + 1)), .int (xs (i + 2))] [.int r_36] 2 (wX4 E h4 cd0 n0 rt0 sc0 on2_ lo2_ hi2_ non_ nlo_ nhi_ fl_ tlo_ thi_ le2_ gr2_) [cObj (h3 0) 3 [.ref (h3 1), .int (nI n0), .int (bI sc0), .int (nI rt0), .ref (h3 2), .ref (h3 6), .ref (h3 10), .ref (h3 13)], cInt E (h3 1) 96 cd0, cObj (h3 2) 2 [.ref (h3 3), .ref (h3 4), .ref (h3 5)], cBoo E (h3 3) 24 on_, cLng E (h3 4) 96 lo_, cLng E (h3 5) 96 hi_, cObj (h3 6) 2 [.ref (h3 7), .ref (h3 8), .ref (h3 9)], cBoo E (h3 7) 24 son_, cLng E (h3 8) 96 slo_, cLng E (h3 9) 96 shi_, cObj (h3 10) 0 [.int (bI fs_), .ref (h3 11), .ref (h3 12)], cLng E (h3 11) 4 lf_, cLng E (h3 12) 4 hf_, cObj (h3 13) 1 [.int (bI em_), .long le_, .long gr_]] [14, 15, 16, 17, 18, 19, 20, 21, 22, 23, 24] [0, 1, 2, 3, 4, 5, 6, 7, 8, 9, 10, 11, 12, 13] (m_X4_code l E h4 cd0 n0 rt0 sc0 on2_ lo2_ hi2_ non_ nlo_ nhi_ fl_ tlo_ thi_ le2_ gr2_ (xs (i + 1)) (xs (i + 2)) (by omega)) dL_law_190 gL_law_X4_code rfl (by decide +kernel) rfl ⟨rfl, rfl⟩ (by decide) rfl (Nat.le_of_ble_eq_true rfl) (by decide) rfl rfl rfl rfl (by decide) (by decide) (by decide) ?_
          rintro v_40 w_41 ⟨r_39, rfl, rfl, h2⟩
          refine k_perm (wL E h3 h4 cd0 n0 sc0 rt0 on_ lo_ hi_ son_ slo_ shi_ fs_ lf_ hf_ em_ le_ gr_ cd0 n0 rt0 sc0 on2_ lo2_ hi2_ non_ nlo_ nhi_ fl_ tlo_ thi_ le2_ gr2_) [0, 1, 2, 3, 4, 5, 6, 7, 8, 9, 10, 11, 12, 13, 14, 15, 16, 17, 18, 19, 20, 21, 22, 23, 24] (by decide) rfl ?_
          show kK g (wL E h3 h4 cd0 n0 sc0 rt0 on_ lo_ hi_ son_ slo_ shi_ fs_ lf_ hf_ em_ le_ gr_ cd0 n0 rt0 sc0 on2_ lo2_ hi2_ non_ nlo_ nhi_ fl_ tlo_ thi_ le2_ gr2_) [(0, .ref b), (1, .ref (h3 0)), (2, .ref (h4 0)), (3, .int (nI i))] 25 1117 193 [.int r_39, .int r_36]
          have hr := h1.trans h2.symm
          refine k_icmp_eq F (pc := 193) 338 dL_law_193 (by decide) rfl rfl (fun c_42 => ?_) (fun c_42 => ?_)
          · skip
            refine k_iinc F (pc := 338) 3 ((nI (i + 5))) [(3, .int (nI (i + 5))), (0, .ref b), (1, .ref (h3 0)), (2, .ref (h4 0))] dL_law_338 rfl (nI_add i 5) (by decide) rfl ?_
            refine k_goto F (pc := 341) 18 dL_law_341 (by decide) ?_
            refine k_lv [(0, .ref b), (1, .ref (h3 0)), (2, .ref (h4 0)), (3, .int (nI (i + 5)))] [1, 2, 3, 0] rfl ?_
            exact ih18 (i + 5) cd0 n0 sc0 rt0 on_ lo_ hi_ son_ slo_ shi_ fs_ lf_ hf_ em_ le_ gr_ on2_ lo2_ hi2_ non_ nlo_ nhi_ fl_ tlo_ thi_ le2_ gr2_ (by omega) (by omega) (by first | exact hn1 | exact hn0 | omega) (by first | exact hok1 | exact hok | (intro p hp; omega)) (by first | exact hsc1 | exact hsc | (intro h; cases h))
          · skip
            exact absurd (congrArg Int32.toInt hr) c_42
        by_cases c_43 : ((xs i) &&& (nI 15)).toInt = 4
        · skip
          refine k_tabIn F (pc := 32) 4 198 dL_law_32 c_43 (by decide) (by decide) rfl (by decide) ?_
          obtain ⟨K, hK⟩ := rounds_end hn0 hok
          refine k_aload_n F (pc := 198) 1 rfl dL_law_198 rfl ?_
          refine k_callV F (pc := 199) (C := RX3) (T := TX3) (N := 8) (ci := 3) [] [] 0 (wX3 E h3 cd0 n0 sc0 rt0 on_ lo_ hi_ son_ slo_ shi_ fs_ lf_ hf_ em_ le_ gr_) [cObj (h4 0) 4 [.ref (h4 1), .int (nI n0), .int (nI rt0), .int (bI sc0), .ref (h4 2), .ref (h4 3), .ref (h4 4), .ref (h4 5), .ref (h4 6), .ref (h4 7), .ref (h4 8), .ref (h4 9), .ref (h4 10), .long le2_, .long gr2_], cInt E (h4 1) 96 cd0, cBoo E (h4 2) 24 on2_, cLng E (h4 3) 96 lo2_, cLng E (h4 4) 96 hi2_, cBoo E (h4 5) 24 non_, cLng E (h4 6) 96 nlo_, cLng E (h4 7) 96 nhi_, cBoo E (h4 8) 2 fl_, cLng E (h4 9) 8 tlo_, cLng E (h4 10) 8 thi_] [0, 1, 2, 3, 4, 5, 6, 7, 8, 9, 10, 11, 12, 13] [14, 15, 16, 17, 18, 19, 20, 21, 22, 23, 24] (m_X3_scan l E h3 cd0 n0 sc0 rt0 on_ lo_ hi_ son_ slo_ shi_ fs_ lf_ hf_ em_ le_ gr_ K (by omega) hok (fun _ => hK) (fun j k hk => okS_rnd (okS_K hok j) (fun p hp => hok p (by omega))) (okS_K hok)) dL_law_199 gL_law_X3_scan rfl (by decide +kernel) rfl ⟨rfl, rfl⟩ (by decide) rfl (Nat.le_of_ble_eq_true rfl) (by decide) rfl rfl rfl rfl (by decide) (by decide) (by decide) ?_
          rintro v_59 w_60 ⟨r_44, sc1_45, rt1_46, on1_47, lo1_48, hi1_49, son1_50, slo1_51, shi1_52, fs1_53, lf1_54, hf1_55, em1_56, le1_57, gr1_58, rfl, rfl, hs1⟩
          refine k_perm (wL E h3 h4 cd0 n0 sc1_45 rt1_46 on1_47 lo1_48 hi1_49 son1_50 slo1_51 shi1_52 fs1_53 lf1_54 hf1_55 em1_56 le1_57 gr1_58 cd0 n0 rt0 sc0 on2_ lo2_ hi2_ non_ nlo_ nhi_ fl_ tlo_ thi_ le2_ gr2_) [11, 12, 13, 14, 15, 16, 17, 18, 19, 20, 21, 22, 23, 24, 0, 1, 2, 3, 4, 5, 6, 7, 8, 9, 10] (by decide) rfl ?_
          show kK g (wL E h3 h4 cd0 n0 sc1_45 rt1_46 on1_47 lo1_48 hi1_49 son1_50 slo1_51 shi1_52 fs1_53 lf1_54 hf1_55 em1_56 le1_57 gr1_58 cd0 n0 rt0 sc0 on2_ lo2_ hi2_ non_ nlo_ nhi_ fl_ tlo_ thi_ le2_ gr2_) [(0, .ref b), (1, .ref (h3 0)), (2, .ref (h4 0)), (3, .int (nI i))] 25 1117 202 [.int r_44]
          refine k_aload_n F (pc := 202) 2 rfl dL_law_202 rfl ?_
          refine k_callV F (pc := 203) (C := RX4) (T := TX4) (N := 15) (ci := 4) [] [.int r_44] 0 (wX4 E h4 cd0 n0 rt0 sc0 on2_ lo2_ hi2_ non_ nlo_ nhi_ fl_ tlo_ thi_ le2_ gr2_) [cObj (h3 0) 3 [.ref (h3 1), .int (nI n0), .int (bI sc1_45), .int (nI rt1_46), .ref (h3 2), .ref (h3 6), .ref (h3 10), .ref (h3 13)], cInt E (h3 1) 96 cd0, cObj (h3 2) 2 [.ref (h3 3), .ref (h3 4), .ref (h3 5)], cBoo E (h3 3) 24 on1_47, cLng E (h3 4) 96 lo1_48, cLng E (h3 5) 96 hi1_49, cObj (h3 6) 2 [.ref (h3 7), .ref (h3 8), .ref (h3 9)], cBoo E (h3 7) 24 son1_50, cLng E (h3 8) 96 slo1_51, cLng E (h3 9) 96 shi1_52, cObj (h3 10) 0 [.int (bI fs1_53), .ref (h3 11), .ref (h3 12)], cLng E (h3 11) 4 lf1_54, cLng E (h3 12) 4 hf1_55, cObj (h3 13) 1 [.int (bI em1_56), .long le1_57, .long gr1_58]] [14, 15, 16, 17, 18, 19, 20, 21, 22, 23, 24] [0, 1, 2, 3, 4, 5, 6, 7, 8, 9, 10, 11, 12, 13] (m_X4_scan l E h4 cd0 n0 rt0 sc0 on2_ lo2_ hi2_ non_ nlo_ nhi_ fl_ tlo_ thi_ le2_ gr2_ K (by omega) hok (fun _ => hK) (fun j k hk => okS_rnd (okS_K hok j) (fun p hp => hok p (by omega))) (okS_K hok)) dL_law_203 gL_law_X4_scan rfl (by decide +kernel) rfl ⟨rfl, rfl⟩ (by decide) rfl (Nat.le_of_ble_eq_true rfl) (by decide) rfl rfl rfl rfl (by decide) (by decide) (by decide) ?_
          rintro v_75 w_76 ⟨r_61, sc1_62, rt1_63, on1_64, lo1_65, hi1_66, non1_67, nlo1_68, nhi1_69, fl1_70, tlo1_71, thi1_72, le1_73, gr1_74, rfl, rfl, hs2⟩
          refine k_perm (wL E h3 h4 cd0 n0 sc1_45 rt1_46 on1_47 lo1_48 hi1_49 son1_50 slo1_51 shi1_52 fs1_53 lf1_54 hf1_55 em1_56 le1_57 gr1_58 cd0 n0 rt1_63 sc1_62 on1_64 lo1_65 hi1_66 non1_67 nlo1_68 nhi1_69 fl1_70 tlo1_71 thi1_72 le1_73 gr1_74) [0, 1, 2, 3, 4, 5, 6, 7, 8, 9, 10, 11, 12, 13, 14, 15, 16, 17, 18, 19, 20, 21, 22, 23, 24] (by decide) rfl ?_
          show kK g (wL E h3 h4 cd0 n0 sc1_45 rt1_46 on1_47 lo1_48 hi1_49 son1_50 slo1_51 shi1_52 fs1_53 lf1_54 hf1_55 em1_56 le1_57 gr1_58 cd0 n0 rt1_63 sc1_62 on1_64 lo1_65 hi1_66 non1_67 nlo1_68 nhi1_69 fl1_70 tlo1_71 thi1_72 le1_73 gr1_74) [(0, .ref b), (1, .ref (h3 0)), (2, .ref (h4 0)), (3, .int (nI i))] 25 1117 206 [.int r_61, .int r_44]
          obtain ⟨hr, rfl, rfl, hsc1⟩ := scan_det hn0 hok hs1 hs2
          refine k_icmp_eq F (pc := 206) 338 dL_law_206 (by decide) rfl rfl (fun c_77 => ?_) (fun c_77 => ?_)
          · skip
            refine k_iinc F (pc := 338) 3 ((nI (i + 5))) [(3, .int (nI (i + 5))), (0, .ref b), (1, .ref (h3 0)), (2, .ref (h4 0))] dL_law_338 rfl (nI_add i 5) (by decide) rfl ?_
            refine k_goto F (pc := 341) 18 dL_law_341 (by decide) ?_
            refine k_lv [(0, .ref b), (1, .ref (h3 0)), (2, .ref (h4 0)), (3, .int (nI (i + 5)))] [1, 2, 3, 0] rfl ?_
            exact ih18 (i + 5) cd0 n0 sc1_45 rt1_46 on1_47 lo1_48 hi1_49 son1_50 slo1_51 shi1_52 fs1_53 lf1_54 hf1_55 em1_56 le1_57 gr1_58 on1_64 lo1_65 hi1_66 non1_67 nlo1_68 nhi1_69 fl1_70 tlo1_71 thi1_72 le1_73 gr1_74 (by omega) (by omega) (by first | exact hn1 | exact hn0 | omega) (by first | exact hok1 | exact hok | (intro p hp; omega)) (by first | exact hsc1 | exact hsc | (intro h; cases h))
          · skip
            exact absurd (congrArg Int32.toInt hr) c_77
        by_cases c_78 : ((xs i) &&& (nI 15)).toInt = 5
        · skip
          refine k_tabIn F (pc := 32) 5 211 dL_law_32 c_78 (by decide) (by decide) rfl (by decide) ?_
          refine k_aload_n F (pc := 211) 1 rfl dL_law_211 rfl ?_
          refine k_callV F (pc := 212) (C := RX3) (T := TX3) (N := 8) (ci := 3) [] [] 0 (wX3 E h3 cd0 n0 sc0 rt0 on_ lo_ hi_ son_ slo_ shi_ fs_ lf_ hf_ em_ le_ gr_) [cObj (h4 0) 4 [.ref (h4 1), .int (nI n0), .int (nI rt0), .int (bI sc0), .ref (h4 2), .ref (h4 3), .ref (h4 4), .ref (h4 5), .ref (h4 6), .ref (h4 7), .ref (h4 8), .ref (h4 9), .ref (h4 10), .long le2_, .long gr2_], cInt E (h4 1) 96 cd0, cBoo E (h4 2) 24 on2_, cLng E (h4 3) 96 lo2_, cLng E (h4 4) 96 hi2_, cBoo E (h4 5) 24 non_, cLng E (h4 6) 96 nlo_, cLng E (h4 7) 96 nhi_, cBoo E (h4 8) 2 fl_, cLng E (h4 9) 8 tlo_, cLng E (h4 10) 8 thi_] [0, 1, 2, 3, 4, 5, 6, 7, 8, 9, 10, 11, 12, 13] [14, 15, 16, 17, 18, 19, 20, 21, 22, 23, 24] (m_X3_rounds l E h3 cd0 n0 sc0 rt0 on_ lo_ hi_ son_ slo_ shi_ fs_ lf_ hf_ em_ le_ gr_) dL_law_212 gL_law_X3_rounds rfl (by decide +kernel) rfl ⟨rfl, rfl⟩ (by decide) rfl (Nat.le_of_ble_eq_true rfl) (by decide) rfl rfl rfl rfl (by decide) (by decide) (by decide) ?_
          rintro v_79 w_80 ⟨rfl, rfl⟩
          refine k_perm (wL E h3 h4 cd0 n0 sc0 rt0 on_ lo_ hi_ son_ slo_ shi_ fs_ lf_ hf_ em_ le_ gr_ cd0 n0 rt0 sc0 on2_ lo2_ hi2_ non_ nlo_ nhi_ fl_ tlo_ thi_ le2_ gr2_) [11, 12, 13, 14, 15, 16, 17, 18, 19, 20, 21, 22, 23, 24, 0, 1, 2, 3, 4, 5, 6, 7, 8, 9, 10] (by decide) rfl ?_
          show kK g (wL E h3 h4 cd0 n0 sc0 rt0 on_ lo_ hi_ son_ slo_ shi_ fs_ lf_ hf_ em_ le_ gr_ cd0 n0 rt0 sc0 on2_ lo2_ hi2_ non_ nlo_ nhi_ fl_ tlo_ thi_ le2_ gr2_) [(0, .ref b), (1, .ref (h3 0)), (2, .ref (h4 0)), (3, .int (nI i))] 25 1117 215 [.int (nI rt0)]
          refine k_aload_n F (pc := 215) 2 rfl dL_law_215 rfl ?_
          refine k_callV F (pc := 216) (C := RX4) (T := TX4) (N := 15) (ci := 4) [] [.int (nI rt0)] 0 (wX4 E h4 cd0 n0 rt0 sc0 on2_ lo2_ hi2_ non_ nlo_ nhi_ fl_ tlo_ thi_ le2_ gr2_) [cObj (h3 0) 3 [.ref (h3 1), .int (nI n0), .int (bI sc0), .int (nI rt0), .ref (h3 2), .ref (h3 6), .ref (h3 10), .ref (h3 13)], cInt E (h3 1) 96 cd0, cObj (h3 2) 2 [.ref (h3 3), .ref (h3 4), .ref (h3 5)], cBoo E (h3 3) 24 on_, cLng E (h3 4) 96 lo_, cLng E (h3 5) 96 hi_, cObj (h3 6) 2 [.ref (h3 7), .ref (h3 8), .ref (h3 9)], cBoo E (h3 7) 24 son_, cLng E (h3 8) 96 slo_, cLng E (h3 9) 96 shi_, cObj (h3 10) 0 [.int (bI fs_), .ref (h3 11), .ref (h3 12)], cLng E (h3 11) 4 lf_, cLng E (h3 12) 4 hf_, cObj (h3 13) 1 [.int (bI em_), .long le_, .long gr_]] [14, 15, 16, 17, 18, 19, 20, 21, 22, 23, 24] [0, 1, 2, 3, 4, 5, 6, 7, 8, 9, 10, 11, 12, 13] (m_X4_rounds l E h4 cd0 n0 rt0 sc0 on2_ lo2_ hi2_ non_ nlo_ nhi_ fl_ tlo_ thi_ le2_ gr2_) dL_law_216 gL_law_X4_rounds rfl (by decide +kernel) rfl ⟨rfl, rfl⟩ (by decide) rfl (Nat.le_of_ble_eq_true rfl) (by decide) rfl rfl rfl rfl (by decide) (by decide) (by decide) ?_
          rintro v_81 w_82 ⟨rfl, rfl⟩
          refine k_perm (wL E h3 h4 cd0 n0 sc0 rt0 on_ lo_ hi_ son_ slo_ shi_ fs_ lf_ hf_ em_ le_ gr_ cd0 n0 rt0 sc0 on2_ lo2_ hi2_ non_ nlo_ nhi_ fl_ tlo_ thi_ le2_ gr2_) [0, 1, 2, 3, 4, 5, 6, 7, 8, 9, 10, 11, 12, 13, 14, 15, 16, 17, 18, 19, 20, 21, 22, 23, 24] (by decide) rfl ?_
          show kK g (wL E h3 h4 cd0 n0 sc0 rt0 on_ lo_ hi_ son_ slo_ shi_ fs_ lf_ hf_ em_ le_ gr_ cd0 n0 rt0 sc0 on2_ lo2_ hi2_ non_ nlo_ nhi_ fl_ tlo_ thi_ le2_ gr2_) [(0, .ref b), (1, .ref (h3 0)), (2, .ref (h4 0)), (3, .int (nI i))] 25 1117 219 [.int (nI rt0), .int (nI rt0)]
          refine k_icmp_eq F (pc := 219) 338 dL_law_219 (by decide) rfl rfl (fun c_83 => ?_) (fun c_83 => ?_)
          · skip
            refine k_iinc F (pc := 338) 3 ((nI (i + 5))) [(3, .int (nI (i + 5))), (0, .ref b), (1, .ref (h3 0)), (2, .ref (h4 0))] dL_law_338 rfl (nI_add i 5) (by decide) rfl ?_
            refine k_goto F (pc := 341) 18 dL_law_341 (by decide) ?_
            refine k_lv [(0, .ref b), (1, .ref (h3 0)), (2, .ref (h4 0)), (3, .int (nI (i + 5)))] [1, 2, 3, 0] rfl ?_
            exact ih18 (i + 5) cd0 n0 sc0 rt0 on_ lo_ hi_ son_ slo_ shi_ fs_ lf_ hf_ em_ le_ gr_ on2_ lo2_ hi2_ non_ nlo_ nhi_ fl_ tlo_ thi_ le2_ gr2_ (by omega) (by omega) (by first | exact hn1 | exact hn0 | omega) (by first | exact hok1 | exact hok | (intro p hp; omega)) (by first | exact hsc1 | exact hsc | (intro h; cases h))
          · skip
            exact absurd rfl c_83
        by_cases c_84 : ((xs i) &&& (nI 15)).toInt = 6
        · skip
          refine k_tabIn F (pc := 32) 6 224 dL_law_32 c_84 (by decide) (by decide) rfl (by decide) ?_
          refine k_aload_n F (pc := 224) 1 rfl dL_law_224 rfl ?_
          refine k_aload_n F (pc := 225) 0 rfl dL_law_225 rfl ?_
          refine k_iload_n F (pc := 226) 3 rfl dL_law_226 rfl ?_
          refine k_iconst F (pc := 227) ((nI 1)) dL_law_227 (by decide) ?_
          refine k_iaddN F (pc := 228) dL_law_228 ?_
          refine k_sld F X (pc := 229) dL_law_229 (by omega) (by omega) ?_
          refine k_callV F (pc := 230) (C := RX3) (T := TX3) (N := 8) (ci := 3) [.int (xs (i + 1))] [] 1 (wX3 E h3 cd0 n0 sc0 rt0 on_ lo_ hi_ son_ slo_ shi_ fs_ lf_ hf_ em_ le_ gr_) [cObj (h4 0) 4 [.ref (h4 1), .int (nI n0), .int (nI rt0), .int (bI sc0), .ref (h4 2), .ref (h4 3), .ref (h4 4), .ref (h4 5), .ref (h4 6), .ref (h4 7), .ref (h4 8), .ref (h4 9), .ref (h4 10), .long le2_, .long gr2_], cInt E (h4 1) 96 cd0, cBoo E (h4 2) 24 on2_, cLng E (h4 3) 96 lo2_, cLng E (h4 4) 96 hi2_, cBoo E (h4 5) 24 non_, cLng E (h4 6) 96 nlo_, cLng E (h4 7) 96 nhi_, cBoo E (h4 8) 2 fl_, cLng E (h4 9) 8 tlo_, cLng E (h4 10) 8 thi_] [0, 1, 2, 3, 4, 5, 6, 7, 8, 9, 10, 11, 12, 13] [14, 15, 16, 17, 18, 19, 20, 21, 22, 23, 24] (m_X3_reached l E h3 cd0 n0 sc0 rt0 on_ lo_ hi_ son_ slo_ shi_ fs_ lf_ hf_ em_ le_ gr_ (xs (i + 1)) (by omega)) dL_law_230 gL_law_X3_reached rfl (by decide +kernel) rfl ⟨rfl, rfl⟩ (by decide) rfl (Nat.le_of_ble_eq_true rfl) (by decide) rfl rfl rfl rfl (by decide) (by decide) (by decide) ?_
          rintro v_86 w_87 ⟨r_85, rfl, rfl, h1⟩
          refine k_perm (wL E h3 h4 cd0 n0 sc0 rt0 on_ lo_ hi_ son_ slo_ shi_ fs_ lf_ hf_ em_ le_ gr_ cd0 n0 rt0 sc0 on2_ lo2_ hi2_ non_ nlo_ nhi_ fl_ tlo_ thi_ le2_ gr2_) [11, 12, 13, 14, 15, 16, 17, 18, 19, 20, 21, 22, 23, 24, 0, 1, 2, 3, 4, 5, 6, 7, 8, 9, 10] (by decide) rfl ?_
          show kK g (wL E h3 h4 cd0 n0 sc0 rt0 on_ lo_ hi_ son_ slo_ shi_ fs_ lf_ hf_ em_ le_ gr_ cd0 n0 rt0 sc0 on2_ lo2_ hi2_ non_ nlo_ nhi_ fl_ tlo_ thi_ le2_ gr2_) [(0, .ref b), (1, .ref (h3 0)), (2, .ref (h4 0)), (3, .int (nI i))] 25 1117 233 [.int r_85]
          refine k_aload_n F (pc := 233) 2 rfl dL_law_233 rfl ?_
          refine k_aload_n F (pc := 234) 0 rfl dL_law_234 rfl ?_
          refine k_iload_n F (pc := 235) 3 rfl dL_law_235 rfl ?_
          refine k_iconst F (pc := 236) ((nI 1)) dL_law_236 (by decide) ?_
          refine k_iaddN F (pc := 237) dL_law_237 ?_
          refine k_sld F X (pc := 238) dL_law_238 (by omega) (by omega) ?_
          refine k_callV F (pc := 239) (C := RX4) (T := TX4) (N := 15) (ci := 4) [.int (xs (i + 1))] [.int r_85] 1 (wX4 E h4 cd0 n0 rt0 sc0 on2_ lo2_ hi2_ non_ nlo_ nhi_ fl_ tlo_ thi_ le2_ gr2_) [cObj (h3 0) 3 [.ref (h3 1), .int (nI n0), .int (bI sc0), .int (nI rt0), .ref (h3 2), .ref (h3 6), .ref (h3 10), .ref (h3 13)], cInt E (h3 1) 96 cd0, cObj (h3 2) 2 [.ref (h3 3), .ref (h3 4), .ref (h3 5)], cBoo E (h3 3) 24 on_, cLng E (h3 4) 96 lo_, cLng E (h3 5) 96 hi_, cObj (h3 6) 2 [.ref (h3 7), .ref (h3 8), .ref (h3 9)], cBoo E (h3 7) 24 son_, cLng E (h3 8) 96 slo_, cLng E (h3 9) 96 shi_, cObj (h3 10) 0 [.int (bI fs_), .ref (h3 11), .ref (h3 12)], cLng E (h3 11) 4 lf_, cLng E (h3 12) 4 hf_, cObj (h3 13) 1 [.int (bI em_), .long le_, .long gr_]] [14, 15, 16, 17, 18, 19, 20, 21, 22, 23, 24] [0, 1, 2, 3, 4, 5, 6, 7, 8, 9, 10, 11, 12, 13] (m_X4_reached l E h4 cd0 n0 rt0 sc0 on2_ lo2_ hi2_ non_ nlo_ nhi_ fl_ tlo_ thi_ le2_ gr2_ (xs (i + 1)) (by omega)) dL_law_239 gL_law_X4_reached rfl (by decide +kernel) rfl ⟨rfl, rfl⟩ (by decide) rfl (Nat.le_of_ble_eq_true rfl) (by decide) rfl rfl rfl rfl (by decide) (by decide) (by decide) ?_
          rintro v_89 w_90 ⟨r_88, rfl, rfl, h2⟩
          refine k_perm (wL E h3 h4 cd0 n0 sc0 rt0 on_ lo_ hi_ son_ slo_ shi_ fs_ lf_ hf_ em_ le_ gr_ cd0 n0 rt0 sc0 on2_ lo2_ hi2_ non_ nlo_ nhi_ fl_ tlo_ thi_ le2_ gr2_) [0, 1, 2, 3, 4, 5, 6, 7, 8, 9, 10, 11, 12, 13, 14, 15, 16, 17, 18, 19, 20, 21, 22, 23, 24] (by decide) rfl ?_
          show kK g (wL E h3 h4 cd0 n0 sc0 rt0 on_ lo_ hi_ son_ slo_ shi_ fs_ lf_ hf_ em_ le_ gr_ cd0 n0 rt0 sc0 on2_ lo2_ hi2_ non_ nlo_ nhi_ fl_ tlo_ thi_ le2_ gr2_) [(0, .ref b), (1, .ref (h3 0)), (2, .ref (h4 0)), (3, .int (nI i))] 25 1117 242 [.int r_88, .int r_85]
          have hr := (h1.trans (rchV_eq hn0 hsc _)).trans h2.symm
          refine k_icmp_eq F (pc := 242) 338 dL_law_242 (by decide) rfl rfl (fun c_91 => ?_) (fun c_91 => ?_)
          · skip
            refine k_iinc F (pc := 338) 3 ((nI (i + 5))) [(3, .int (nI (i + 5))), (0, .ref b), (1, .ref (h3 0)), (2, .ref (h4 0))] dL_law_338 rfl (nI_add i 5) (by decide) rfl ?_
            refine k_goto F (pc := 341) 18 dL_law_341 (by decide) ?_
            refine k_lv [(0, .ref b), (1, .ref (h3 0)), (2, .ref (h4 0)), (3, .int (nI (i + 5)))] [1, 2, 3, 0] rfl ?_
            exact ih18 (i + 5) cd0 n0 sc0 rt0 on_ lo_ hi_ son_ slo_ shi_ fs_ lf_ hf_ em_ le_ gr_ on2_ lo2_ hi2_ non_ nlo_ nhi_ fl_ tlo_ thi_ le2_ gr2_ (by omega) (by omega) (by first | exact hn1 | exact hn0 | omega) (by first | exact hok1 | exact hok | (intro p hp; omega)) (by first | exact hsc1 | exact hsc | (intro h; cases h))
          · skip
            exact absurd (congrArg Int32.toInt hr) c_91
        by_cases c_92 : ((xs i) &&& (nI 15)).toInt = 7
        · skip
          refine k_tabIn F (pc := 32) 7 247 dL_law_32 c_92 (by decide) (by decide) rfl (by decide) ?_
          refine k_aload_n F (pc := 247) 1 rfl dL_law_247 rfl ?_
          refine k_aload_n F (pc := 248) 0 rfl dL_law_248 rfl ?_
          refine k_iload_n F (pc := 249) 3 rfl dL_law_249 rfl ?_
          refine k_iconst F (pc := 250) ((nI 1)) dL_law_250 (by decide) ?_
          refine k_iaddN F (pc := 251) dL_law_251 ?_
          refine k_sld F X (pc := 252) dL_law_252 (by omega) (by omega) ?_
          refine k_aload_n F (pc := 253) 0 rfl dL_law_253 rfl ?_
          refine k_iload_n F (pc := 254) 3 rfl dL_law_254 rfl ?_
          refine k_iconst F (pc := 255) ((nI 2)) dL_law_255 (by decide) ?_
          refine k_iaddN F (pc := 256) dL_law_256 ?_
          refine k_sld F X (pc := 257) dL_law_257 (by omega) (by omega) ?_
          refine k_callV F (pc := 258) (C := RX3) (T := TX3) (N := 8) (ci := 3) [.int (xs (i + 1)), .int (xs (i + 2))] [] 2 (wX3 E h3 cd0 n0 sc0 rt0 on_ lo_ hi_ son_ slo_ shi_ fs_ lf_ hf_ em_ le_ gr_) [cObj (h4 0) 4 [.ref (h4 1), .int (nI n0), .int (nI rt0), .int (bI sc0), .ref (h4 2), .ref (h4 3), .ref (h4 4), .ref (h4 5), .ref (h4 6), .ref (h4 7), .ref (h4 8), .ref (h4 9), .ref (h4 10), .long le2_, .long gr2_], cInt E (h4 1) 96 cd0, cBoo E (h4 2) 24 on2_, cLng E (h4 3) 96 lo2_, cLng E (h4 4) 96 hi2_, cBoo E (h4 5) 24 non_, cLng E (h4 6) 96 nlo_, cLng E (h4 7) 96 nhi_, cBoo E (h4 8) 2 fl_, cLng E (h4 9) 8 tlo_, cLng E (h4 10) 8 thi_] [0, 1, 2, 3, 4, 5, 6, 7, 8, 9, 10, 11, 12, 13] [14, 15, 16, 17, 18, 19, 20, 21, 22, 23, 24] (m_X3_low l E h3 cd0 n0 sc0 rt0 on_ lo_ hi_ son_ slo_ shi_ fs_ lf_ hf_ em_ le_ gr_ (xs (i + 1)) (xs (i + 2)) (by omega)) dL_law_258 gL_law_X3_low rfl (by decide +kernel) rfl ⟨rfl, rfl⟩ (by decide) rfl (Nat.le_of_ble_eq_true rfl) (by decide) rfl rfl rfl rfl (by decide) (by decide) (by decide) ?_
          rintro v_94 w_95 ⟨r_93, rfl, rfl, h1⟩
          refine k_perm (wL E h3 h4 cd0 n0 sc0 rt0 on_ lo_ hi_ son_ slo_ shi_ fs_ lf_ hf_ em_ le_ gr_ cd0 n0 rt0 sc0 on2_ lo2_ hi2_ non_ nlo_ nhi_ fl_ tlo_ thi_ le2_ gr2_) [11, 12, 13, 14, 15, 16, 17, 18, 19, 20, 21, 22, 23, 24, 0, 1, 2, 3, 4, 5, 6, 7, 8, 9, 10] (by decide) rfl ?_
          show kK g (wL E h3 h4 cd0 n0 sc0 rt0 on_ lo_ hi_ son_ slo_ shi_ fs_ lf_ hf_ em_ le_ gr_ cd0 n0 rt0 sc0 on2_ lo2_ hi2_ non_ nlo_ nhi_ fl_ tlo_ thi_ le2_ gr2_) [(0, .ref b), (1, .ref (h3 0)), (2, .ref (h4 0)), (3, .int (nI i))] 25 1117 261 [.long r_93]
          refine k_aload_n F (pc := 261) 2 rfl dL_law_261 rfl ?_
          refine k_aload_n F (pc := 262) 0 rfl dL_law_262 rfl ?_
          refine k_iload_n F (pc := 263) 3 rfl dL_law_263 rfl ?_
          refine k_iconst F (pc := 264) ((nI 1)) dL_law_264 (by decide) ?_
          refine k_iaddN F (pc := 265) dL_law_265 ?_
          refine k_sld F X (pc := 266) dL_law_266 (by omega) (by omega) ?_
          refine k_aload_n F (pc := 267) 0 rfl dL_law_267 rfl ?_
          refine k_iload_n F (pc := 268) 3 rfl dL_law_268 rfl ?_
          refine k_iconst F (pc := 269) ((nI 2)) dL_law_269 (by decide) ?_
          refine k_iaddN F (pc := 270) dL_law_270 ?_
          refine k_sld F X (pc := 271) dL_law_271 (by omega) (by omega) ?_
          refine k_callV F (pc := 272) (C := RX4) (T := TX4) (N := 15) (ci := 4) [.int (xs (i + 1)), .int (xs (i + 2))] [.long r_93] 2 (wX4 E h4 cd0 n0 rt0 sc0 on2_ lo2_ hi2_ non_ nlo_ nhi_ fl_ tlo_ thi_ le2_ gr2_) [cObj (h3 0) 3 [.ref (h3 1), .int (nI n0), .int (bI sc0), .int (nI rt0), .ref (h3 2), .ref (h3 6), .ref (h3 10), .ref (h3 13)], cInt E (h3 1) 96 cd0, cObj (h3 2) 2 [.ref (h3 3), .ref (h3 4), .ref (h3 5)], cBoo E (h3 3) 24 on_, cLng E (h3 4) 96 lo_, cLng E (h3 5) 96 hi_, cObj (h3 6) 2 [.ref (h3 7), .ref (h3 8), .ref (h3 9)], cBoo E (h3 7) 24 son_, cLng E (h3 8) 96 slo_, cLng E (h3 9) 96 shi_, cObj (h3 10) 0 [.int (bI fs_), .ref (h3 11), .ref (h3 12)], cLng E (h3 11) 4 lf_, cLng E (h3 12) 4 hf_, cObj (h3 13) 1 [.int (bI em_), .long le_, .long gr_]] [14, 15, 16, 17, 18, 19, 20, 21, 22, 23, 24] [0, 1, 2, 3, 4, 5, 6, 7, 8, 9, 10, 11, 12, 13] (m_X4_low l E h4 cd0 n0 rt0 sc0 on2_ lo2_ hi2_ non_ nlo_ nhi_ fl_ tlo_ thi_ le2_ gr2_ (xs (i + 1)) (xs (i + 2)) (by omega)) dL_law_272 gL_law_X4_low rfl (by decide +kernel) rfl ⟨rfl, rfl⟩ (by decide) rfl (Nat.le_of_ble_eq_true rfl) (by decide) rfl rfl rfl rfl (by decide) (by decide) (by decide) ?_
          rintro v_97 w_98 ⟨r_96, rfl, rfl, h2⟩
          refine k_perm (wL E h3 h4 cd0 n0 sc0 rt0 on_ lo_ hi_ son_ slo_ shi_ fs_ lf_ hf_ em_ le_ gr_ cd0 n0 rt0 sc0 on2_ lo2_ hi2_ non_ nlo_ nhi_ fl_ tlo_ thi_ le2_ gr2_) [0, 1, 2, 3, 4, 5, 6, 7, 8, 9, 10, 11, 12, 13, 14, 15, 16, 17, 18, 19, 20, 21, 22, 23, 24] (by decide) rfl ?_
          show kK g (wL E h3 h4 cd0 n0 sc0 rt0 on_ lo_ hi_ son_ slo_ shi_ fs_ lf_ hf_ em_ le_ gr_ cd0 n0 rt0 sc0 on2_ lo2_ hi2_ non_ nlo_ nhi_ fl_ tlo_ thi_ le2_ gr2_) [(0, .ref b), (1, .ref (h3 0)), (2, .ref (h4 0)), (3, .int (nI i))] 25 1117 275 [.long r_96, .long r_93]
          have hr := (h1.trans (bndV_eq hn0 hsc _ _).1).trans h2.symm
          refine k_lcmp_eq F (pc := 275) 338 dL_law_275 dL_law_276 (by decide) (fun c_99 => ?_) (fun c_99 => ?_)
          · skip
            refine k_iinc F (pc := 338) 3 ((nI (i + 5))) [(3, .int (nI (i + 5))), (0, .ref b), (1, .ref (h3 0)), (2, .ref (h4 0))] dL_law_338 rfl (nI_add i 5) (by decide) rfl ?_
            refine k_goto F (pc := 341) 18 dL_law_341 (by decide) ?_
            refine k_lv [(0, .ref b), (1, .ref (h3 0)), (2, .ref (h4 0)), (3, .int (nI (i + 5)))] [1, 2, 3, 0] rfl ?_
            exact ih18 (i + 5) cd0 n0 sc0 rt0 on_ lo_ hi_ son_ slo_ shi_ fs_ lf_ hf_ em_ le_ gr_ on2_ lo2_ hi2_ non_ nlo_ nhi_ fl_ tlo_ thi_ le2_ gr2_ (by omega) (by omega) (by first | exact hn1 | exact hn0 | omega) (by first | exact hok1 | exact hok | (intro p hp; omega)) (by first | exact hsc1 | exact hsc | (intro h; cases h))
          · skip
            exact absurd hr c_99
        by_cases c_100 : ((xs i) &&& (nI 15)).toInt = 8
        · skip
          refine k_tabIn F (pc := 32) 8 281 dL_law_32 c_100 (by decide) (by decide) rfl (by decide) ?_
          refine k_aload_n F (pc := 281) 1 rfl dL_law_281 rfl ?_
          refine k_aload_n F (pc := 282) 0 rfl dL_law_282 rfl ?_
          refine k_iload_n F (pc := 283) 3 rfl dL_law_283 rfl ?_
          refine k_iconst F (pc := 284) ((nI 1)) dL_law_284 (by decide) ?_
          refine k_iaddN F (pc := 285) dL_law_285 ?_
          refine k_sld F X (pc := 286) dL_law_286 (by omega) (by omega) ?_
          refine k_aload_n F (pc := 287) 0 rfl dL_law_287 rfl ?_
          refine k_iload_n F (pc := 288) 3 rfl dL_law_288 rfl ?_
          refine k_iconst F (pc := 289) ((nI 2)) dL_law_289 (by decide) ?_
          refine k_iaddN F (pc := 290) dL_law_290 ?_
          refine k_sld F X (pc := 291) dL_law_291 (by omega) (by omega) ?_
          refine k_callV F (pc := 292) (C := RX3) (T := TX3) (N := 8) (ci := 3) [.int (xs (i + 1)), .int (xs (i + 2))] [] 2 (wX3 E h3 cd0 n0 sc0 rt0 on_ lo_ hi_ son_ slo_ shi_ fs_ lf_ hf_ em_ le_ gr_) [cObj (h4 0) 4 [.ref (h4 1), .int (nI n0), .int (nI rt0), .int (bI sc0), .ref (h4 2), .ref (h4 3), .ref (h4 4), .ref (h4 5), .ref (h4 6), .ref (h4 7), .ref (h4 8), .ref (h4 9), .ref (h4 10), .long le2_, .long gr2_], cInt E (h4 1) 96 cd0, cBoo E (h4 2) 24 on2_, cLng E (h4 3) 96 lo2_, cLng E (h4 4) 96 hi2_, cBoo E (h4 5) 24 non_, cLng E (h4 6) 96 nlo_, cLng E (h4 7) 96 nhi_, cBoo E (h4 8) 2 fl_, cLng E (h4 9) 8 tlo_, cLng E (h4 10) 8 thi_] [0, 1, 2, 3, 4, 5, 6, 7, 8, 9, 10, 11, 12, 13] [14, 15, 16, 17, 18, 19, 20, 21, 22, 23, 24] (m_X3_high l E h3 cd0 n0 sc0 rt0 on_ lo_ hi_ son_ slo_ shi_ fs_ lf_ hf_ em_ le_ gr_ (xs (i + 1)) (xs (i + 2)) (by omega)) dL_law_292 gL_law_X3_high rfl (by decide +kernel) rfl ⟨rfl, rfl⟩ (by decide) rfl (Nat.le_of_ble_eq_true rfl) (by decide) rfl rfl rfl rfl (by decide) (by decide) (by decide) ?_
          rintro v_102 w_103 ⟨r_101, rfl, rfl, h1⟩
          refine k_perm (wL E h3 h4 cd0 n0 sc0 rt0 on_ lo_ hi_ son_ slo_ shi_ fs_ lf_ hf_ em_ le_ gr_ cd0 n0 rt0 sc0 on2_ lo2_ hi2_ non_ nlo_ nhi_ fl_ tlo_ thi_ le2_ gr2_) [11, 12, 13, 14, 15, 16, 17, 18, 19, 20, 21, 22, 23, 24, 0, 1, 2, 3, 4, 5, 6, 7, 8, 9, 10] (by decide) rfl ?_
          show kK g (wL E h3 h4 cd0 n0 sc0 rt0 on_ lo_ hi_ son_ slo_ shi_ fs_ lf_ hf_ em_ le_ gr_ cd0 n0 rt0 sc0 on2_ lo2_ hi2_ non_ nlo_ nhi_ fl_ tlo_ thi_ le2_ gr2_) [(0, .ref b), (1, .ref (h3 0)), (2, .ref (h4 0)), (3, .int (nI i))] 25 1117 295 [.long r_101]
          refine k_aload_n F (pc := 295) 2 rfl dL_law_295 rfl ?_
          refine k_aload_n F (pc := 296) 0 rfl dL_law_296 rfl ?_
          refine k_iload_n F (pc := 297) 3 rfl dL_law_297 rfl ?_
          refine k_iconst F (pc := 298) ((nI 1)) dL_law_298 (by decide) ?_
          refine k_iaddN F (pc := 299) dL_law_299 ?_
          refine k_sld F X (pc := 300) dL_law_300 (by omega) (by omega) ?_
          refine k_aload_n F (pc := 301) 0 rfl dL_law_301 rfl ?_
          refine k_iload_n F (pc := 302) 3 rfl dL_law_302 rfl ?_
          refine k_iconst F (pc := 303) ((nI 2)) dL_law_303 (by decide) ?_
          refine k_iaddN F (pc := 304) dL_law_304 ?_
          refine k_sld F X (pc := 305) dL_law_305 (by omega) (by omega) ?_
          refine k_callV F (pc := 306) (C := RX4) (T := TX4) (N := 15) (ci := 4) [.int (xs (i + 1)), .int (xs (i + 2))] [.long r_101] 2 (wX4 E h4 cd0 n0 rt0 sc0 on2_ lo2_ hi2_ non_ nlo_ nhi_ fl_ tlo_ thi_ le2_ gr2_) [cObj (h3 0) 3 [.ref (h3 1), .int (nI n0), .int (bI sc0), .int (nI rt0), .ref (h3 2), .ref (h3 6), .ref (h3 10), .ref (h3 13)], cInt E (h3 1) 96 cd0, cObj (h3 2) 2 [.ref (h3 3), .ref (h3 4), .ref (h3 5)], cBoo E (h3 3) 24 on_, cLng E (h3 4) 96 lo_, cLng E (h3 5) 96 hi_, cObj (h3 6) 2 [.ref (h3 7), .ref (h3 8), .ref (h3 9)], cBoo E (h3 7) 24 son_, cLng E (h3 8) 96 slo_, cLng E (h3 9) 96 shi_, cObj (h3 10) 0 [.int (bI fs_), .ref (h3 11), .ref (h3 12)], cLng E (h3 11) 4 lf_, cLng E (h3 12) 4 hf_, cObj (h3 13) 1 [.int (bI em_), .long le_, .long gr_]] [14, 15, 16, 17, 18, 19, 20, 21, 22, 23, 24] [0, 1, 2, 3, 4, 5, 6, 7, 8, 9, 10, 11, 12, 13] (m_X4_high l E h4 cd0 n0 rt0 sc0 on2_ lo2_ hi2_ non_ nlo_ nhi_ fl_ tlo_ thi_ le2_ gr2_ (xs (i + 1)) (xs (i + 2)) (by omega)) dL_law_306 gL_law_X4_high rfl (by decide +kernel) rfl ⟨rfl, rfl⟩ (by decide) rfl (Nat.le_of_ble_eq_true rfl) (by decide) rfl rfl rfl rfl (by decide) (by decide) (by decide) ?_
          rintro v_105 w_106 ⟨r_104, rfl, rfl, h2⟩
          refine k_perm (wL E h3 h4 cd0 n0 sc0 rt0 on_ lo_ hi_ son_ slo_ shi_ fs_ lf_ hf_ em_ le_ gr_ cd0 n0 rt0 sc0 on2_ lo2_ hi2_ non_ nlo_ nhi_ fl_ tlo_ thi_ le2_ gr2_) [0, 1, 2, 3, 4, 5, 6, 7, 8, 9, 10, 11, 12, 13, 14, 15, 16, 17, 18, 19, 20, 21, 22, 23, 24] (by decide) rfl ?_
          show kK g (wL E h3 h4 cd0 n0 sc0 rt0 on_ lo_ hi_ son_ slo_ shi_ fs_ lf_ hf_ em_ le_ gr_ cd0 n0 rt0 sc0 on2_ lo2_ hi2_ non_ nlo_ nhi_ fl_ tlo_ thi_ le2_ gr2_) [(0, .ref b), (1, .ref (h3 0)), (2, .ref (h4 0)), (3, .int (nI i))] 25 1117 309 [.long r_104, .long r_101]
          have hr := (h1.trans (bndV_eq hn0 hsc _ _).2).trans h2.symm
          refine k_lcmp_eq F (pc := 309) 338 dL_law_309 dL_law_310 (by decide) (fun c_107 => ?_) (fun c_107 => ?_)
          · skip
            refine k_iinc F (pc := 338) 3 ((nI (i + 5))) [(3, .int (nI (i + 5))), (0, .ref b), (1, .ref (h3 0)), (2, .ref (h4 0))] dL_law_338 rfl (nI_add i 5) (by decide) rfl ?_
            refine k_goto F (pc := 341) 18 dL_law_341 (by decide) ?_
            refine k_lv [(0, .ref b), (1, .ref (h3 0)), (2, .ref (h4 0)), (3, .int (nI (i + 5)))] [1, 2, 3, 0] rfl ?_
            exact ih18 (i + 5) cd0 n0 sc0 rt0 on_ lo_ hi_ son_ slo_ shi_ fs_ lf_ hf_ em_ le_ gr_ on2_ lo2_ hi2_ non_ nlo_ nhi_ fl_ tlo_ thi_ le2_ gr2_ (by omega) (by omega) (by first | exact hn1 | exact hn0 | omega) (by first | exact hok1 | exact hok | (intro p hp; omega)) (by first | exact hsc1 | exact hsc | (intro h; cases h))
          · skip
            exact absurd hr c_107
        by_cases c_108 : ((xs i) &&& (nI 15)).toInt = 9
        · skip
          refine k_tabIn F (pc := 32) 9 315 dL_law_32 c_108 (by decide) (by decide) rfl (by decide) ?_
          refine k_aload_n F (pc := 315) 1 rfl dL_law_315 rfl ?_
          refine k_aload_n F (pc := 316) 0 rfl dL_law_316 rfl ?_
          refine k_iload_n F (pc := 317) 3 rfl dL_law_317 rfl ?_
          refine k_iconst F (pc := 318) ((nI 1)) dL_law_318 (by decide) ?_
          refine k_iaddN F (pc := 319) dL_law_319 ?_
          refine k_sld F X (pc := 320) dL_law_320 (by omega) (by omega) ?_
          refine k_callV F (pc := 321) (C := RX3) (T := TX3) (N := 8) (ci := 3) [.int (xs (i + 1))] [] 1 (wX3 E h3 cd0 n0 sc0 rt0 on_ lo_ hi_ son_ slo_ shi_ fs_ lf_ hf_ em_ le_ gr_) [cObj (h4 0) 4 [.ref (h4 1), .int (nI n0), .int (nI rt0), .int (bI sc0), .ref (h4 2), .ref (h4 3), .ref (h4 4), .ref (h4 5), .ref (h4 6), .ref (h4 7), .ref (h4 8), .ref (h4 9), .ref (h4 10), .long le2_, .long gr2_], cInt E (h4 1) 96 cd0, cBoo E (h4 2) 24 on2_, cLng E (h4 3) 96 lo2_, cLng E (h4 4) 96 hi2_, cBoo E (h4 5) 24 non_, cLng E (h4 6) 96 nlo_, cLng E (h4 7) 96 nhi_, cBoo E (h4 8) 2 fl_, cLng E (h4 9) 8 tlo_, cLng E (h4 10) 8 thi_] [0, 1, 2, 3, 4, 5, 6, 7, 8, 9, 10, 11, 12, 13] [14, 15, 16, 17, 18, 19, 20, 21, 22, 23, 24] (m_X3_alarm l E h3 cd0 n0 sc0 rt0 on_ lo_ hi_ son_ slo_ shi_ fs_ lf_ hf_ em_ le_ gr_ (xs (i + 1)) (by omega) hok) dL_law_321 gL_law_X3_alarm rfl (by decide +kernel) rfl ⟨rfl, rfl⟩ (by decide) rfl (Nat.le_of_ble_eq_true rfl) (by decide) rfl rfl rfl rfl (by decide) (by decide) (by decide) ?_
          rintro v_110 w_111 ⟨r_109, rfl, rfl, h1⟩
          refine k_perm (wL E h3 h4 cd0 n0 sc0 rt0 on_ lo_ hi_ son_ slo_ shi_ fs_ lf_ hf_ em_ le_ gr_ cd0 n0 rt0 sc0 on2_ lo2_ hi2_ non_ nlo_ nhi_ fl_ tlo_ thi_ le2_ gr2_) [11, 12, 13, 14, 15, 16, 17, 18, 19, 20, 21, 22, 23, 24, 0, 1, 2, 3, 4, 5, 6, 7, 8, 9, 10] (by decide) rfl ?_
          show kK g (wL E h3 h4 cd0 n0 sc0 rt0 on_ lo_ hi_ son_ slo_ shi_ fs_ lf_ hf_ em_ le_ gr_ cd0 n0 rt0 sc0 on2_ lo2_ hi2_ non_ nlo_ nhi_ fl_ tlo_ thi_ le2_ gr2_) [(0, .ref b), (1, .ref (h3 0)), (2, .ref (h4 0)), (3, .int (nI i))] 25 1117 324 [.int r_109]
          refine k_aload_n F (pc := 324) 2 rfl dL_law_324 rfl ?_
          refine k_aload_n F (pc := 325) 0 rfl dL_law_325 rfl ?_
          refine k_iload_n F (pc := 326) 3 rfl dL_law_326 rfl ?_
          refine k_iconst F (pc := 327) ((nI 1)) dL_law_327 (by decide) ?_
          refine k_iaddN F (pc := 328) dL_law_328 ?_
          refine k_sld F X (pc := 329) dL_law_329 (by omega) (by omega) ?_
          refine k_callV F (pc := 330) (C := RX4) (T := TX4) (N := 15) (ci := 4) [.int (xs (i + 1))] [.int r_109] 1 (wX4 E h4 cd0 n0 rt0 sc0 on2_ lo2_ hi2_ non_ nlo_ nhi_ fl_ tlo_ thi_ le2_ gr2_) [cObj (h3 0) 3 [.ref (h3 1), .int (nI n0), .int (bI sc0), .int (nI rt0), .ref (h3 2), .ref (h3 6), .ref (h3 10), .ref (h3 13)], cInt E (h3 1) 96 cd0, cObj (h3 2) 2 [.ref (h3 3), .ref (h3 4), .ref (h3 5)], cBoo E (h3 3) 24 on_, cLng E (h3 4) 96 lo_, cLng E (h3 5) 96 hi_, cObj (h3 6) 2 [.ref (h3 7), .ref (h3 8), .ref (h3 9)], cBoo E (h3 7) 24 son_, cLng E (h3 8) 96 slo_, cLng E (h3 9) 96 shi_, cObj (h3 10) 0 [.int (bI fs_), .ref (h3 11), .ref (h3 12)], cLng E (h3 11) 4 lf_, cLng E (h3 12) 4 hf_, cObj (h3 13) 1 [.int (bI em_), .long le_, .long gr_]] [14, 15, 16, 17, 18, 19, 20, 21, 22, 23, 24] [0, 1, 2, 3, 4, 5, 6, 7, 8, 9, 10, 11, 12, 13] (m_X4_alarm l E h4 cd0 n0 rt0 sc0 on2_ lo2_ hi2_ non_ nlo_ nhi_ fl_ tlo_ thi_ le2_ gr2_ (xs (i + 1)) (by omega) hok) dL_law_330 gL_law_X4_alarm rfl (by decide +kernel) rfl ⟨rfl, rfl⟩ (by decide) rfl (Nat.le_of_ble_eq_true rfl) (by decide) rfl rfl rfl rfl (by decide) (by decide) (by decide) ?_
          rintro v_113 w_114 ⟨r_112, rfl, rfl, h2⟩
          refine k_perm (wL E h3 h4 cd0 n0 sc0 rt0 on_ lo_ hi_ son_ slo_ shi_ fs_ lf_ hf_ em_ le_ gr_ cd0 n0 rt0 sc0 on2_ lo2_ hi2_ non_ nlo_ nhi_ fl_ tlo_ thi_ le2_ gr2_) [0, 1, 2, 3, 4, 5, 6, 7, 8, 9, 10, 11, 12, 13, 14, 15, 16, 17, 18, 19, 20, 21, 22, 23, 24] (by decide) rfl ?_
          show kK g (wL E h3 h4 cd0 n0 sc0 rt0 on_ lo_ hi_ son_ slo_ shi_ fs_ lf_ hf_ em_ le_ gr_ cd0 n0 rt0 sc0 on2_ lo2_ hi2_ non_ nlo_ nhi_ fl_ tlo_ thi_ le2_ gr2_) [(0, .ref b), (1, .ref (h3 0)), (2, .ref (h4 0)), (3, .int (nI i))] 25 1117 333 [.int r_112, .int r_109]
          have hr := (h1.trans (almV_eq hn0 hok hsc _)).trans h2.symm
          refine k_icmp_eq F (pc := 333) 338 dL_law_333 (by decide) rfl rfl (fun c_115 => ?_) (fun c_115 => ?_)
          · skip
            refine k_iinc F (pc := 338) 3 ((nI (i + 5))) [(3, .int (nI (i + 5))), (0, .ref b), (1, .ref (h3 0)), (2, .ref (h4 0))] dL_law_338 rfl (nI_add i 5) (by decide) rfl ?_
            refine k_goto F (pc := 341) 18 dL_law_341 (by decide) ?_
            refine k_lv [(0, .ref b), (1, .ref (h3 0)), (2, .ref (h4 0)), (3, .int (nI (i + 5)))] [1, 2, 3, 0] rfl ?_
            exact ih18 (i + 5) cd0 n0 sc0 rt0 on_ lo_ hi_ son_ slo_ shi_ fs_ lf_ hf_ em_ le_ gr_ on2_ lo2_ hi2_ non_ nlo_ nhi_ fl_ tlo_ thi_ le2_ gr2_ (by omega) (by omega) (by first | exact hn1 | exact hn0 | omega) (by first | exact hok1 | exact hok | (intro p hp; omega)) (by first | exact hsc1 | exact hsc | (intro h; cases h))
          · skip
            exact absurd (congrArg Int32.toInt hr) c_115
        refine k_tabOut F (pc := 32) 338 dL_law_32 (by omega) (by decide) ?_
        refine k_iinc F (pc := 338) 3 ((nI (i + 5))) [(3, .int (nI (i + 5))), (0, .ref b), (1, .ref (h3 0)), (2, .ref (h4 0))] dL_law_338 rfl (nI_add i 5) (by decide) rfl ?_
        refine k_goto F (pc := 341) 18 dL_law_341 (by decide) ?_
        refine k_lv [(0, .ref b), (1, .ref (h3 0)), (2, .ref (h4 0)), (3, .int (nI (i + 5)))] [1, 2, 3, 0] rfl ?_
        exact ih18 (i + 5) cd0 n0 sc0 rt0 on_ lo_ hi_ son_ slo_ shi_ fs_ lf_ hf_ em_ le_ gr_ on2_ lo2_ hi2_ non_ nlo_ nhi_ fl_ tlo_ thi_ le2_ gr2_ (by omega) (by omega) (by first | exact hn1 | exact hn0 | omega) (by first | exact hok1 | exact hok | (intro p hp; omega)) (by first | exact hsc1 | exact hsc | (intro h; cases h))
  refine k_lv [(0, .ref b), (1, .ref (h3 0)), (2, .ref (h4 0)), (3, .int (nI 0))] [3, 2, 1, 0] rfl ?_
  exact L18 (L + 6 - 0 + 1) 0 (fun _ => 0) 0 false 0 (fun _ => false) (fun _ => 0) (fun _ => 0) (fun _ => false) (fun _ => 0) (fun _ => 0) false (fun _ => 0) (fun _ => 0) true 0 0 (fun _ => false) (fun _ => 0) (fun _ => 0) (fun _ => false) (fun _ => 0) (fun _ => 0) (fun _ => false) (fun _ => 0) (fun _ => 0) 0 0 (Nat.lt_succ_self _) (by omega) (by omega) (by intro p hp; omega) (by intro h; cases h)
