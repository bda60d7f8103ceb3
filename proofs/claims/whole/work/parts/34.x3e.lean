theorem zm_X3_sendFlows_f37 : (Cond.fieldLink RX3 37 RX3 "flow" "LRangeScan$Flow;" : Cond) ∈ wsX3_sendFlows := by decide +kernel
theorem zin_X3_sendFlows_X3 : ∀ w ∈ u_ws RX3 TX3 8, w ∈ wsX3_sendFlows := by decide +kernel
theorem zm_X3_sendFlows_f9 : (Cond.fieldLink RX3 9 RX3 "codes" "[I" : Cond) ∈ wsX3_sendFlows := by decide +kernel
set_option maxHeartbeats 4000000 in
set_option maxRecDepth 100000 in
theorem m_X3_sendFlows (l : Launch) (E : kE) (h : Nat → Nat) (cd : Nat → Int32) (n : Nat) (sc : Bool) (rt : Nat) (on : Nat → Bool) (lo : Nat → Int64) (hi : Nat → Int64) (son : Nat → Bool) (slo : Nat → Int64) (shi : Nat → Int64) (fs : Bool) (lf : Nat → Int64) (hf : Nat → Int64) (em : Bool) (le : Int64) (gr : Int64) (p : Nat) (w : Bool) (X : IV × IV) (S : ST) (hn : n ≤ 24) (hp : p < n) (hok : okP cd p) (hX : okX X) (hRS : Rep on lo hi S) (hSp : S p = some X) (hN1 : fN cd p X ≠ none → p + 1 < 24) : kC l yX3_sendFlows wsX3_sendFlows ({ frames := 4, cells := 0, slots := 0, locals := 106 } : Room) E [.ref (h 0), .int (nI p), .ref (h 2), .int (bI w)] (wX3 E h cd n sc rt on lo hi son slo shi fs lf hf em le gr) 0 0 (fun v_ w_ => ∃ (on1 : Nat → Bool) (lo1 : Nat → Int64) (hi1 : Nat → Int64) (fs1 : Bool) (lf1 : Nat → Int64) (hf1 : Nat → Int64) (em1 : Bool) (le1 : Int64) (gr1 : Int64) (r : Bool), v_ = some (.int (bI r)) ∧ w_ = (wX3 E h cd n sc rt on1 lo1 hi1 son slo shi fs1 lf1 hf1 em1 le1 gr1) ∧ (Rep on1 lo1 hi1 (snd2 cd p X w S).2 ∧ r = (snd2 cd p X w S).1)) := by
  refine kC.enter cX3_sendFlows 7 (some .boolean) [(0, .ref (h 0)), (1, .int (nI p)), (2, .ref (h 2)), (3, .int (bI w))] (by decide) rfl (Nat.le_of_ble_eq_true rfl) rfl ?_
  intro g F Rr
  refine k_aload_n F (pc := 0) 0 rfl dX3_sendFlows_0 rfl ?_
  refine k_iload_n F (pc := 1) 1 rfl dX3_sendFlows_1 rfl ?_
  refine k_callV F (pc := 2) (C := RX3) (T := TX3) (N := 8) (ci := 3) [.int (nI p)] [] 1 (wX3 E h cd n sc rt on lo hi son slo shi fs lf hf em le gr) [] [0, 1, 2, 3, 4, 5, 6, 7, 8, 9, 10, 11, 12, 13] [] (m_X3_makeFlowToNext l E h cd n sc rt on lo hi son slo shi fs lf hf em le gr p X (by omega) hok hX ((hRS p (by omega)).2 X hSp).2) dX3_sendFlows_2 gX3_sendFlows_X3_makeFlowToNext rfl (by decide +kernel) rfl ⟨rfl, rfl⟩ (by decide) rfl (Nat.le_of_ble_eq_true rfl) (by decide) rfl rfl rfl rfl (by decide) (by decide) (by decide) ?_
  rintro v_7 w_8 ⟨fs1_1, lf1_2, hf1_3, em1_4, le1_5, gr1_6, rfl, rfl, hfn⟩
  refine k_perm (wX3 E h cd n sc rt on lo hi son slo shi fs1_1 lf1_2 hf1_3 em1_4 le1_5 gr1_6) [0, 1, 2, 3, 4, 5, 6, 7, 8, 9, 10, 11, 12, 13] (by decide) rfl ?_
  show kK g (wX3 E h cd n sc rt on lo hi son slo shi fs1_1 lf1_2 hf1_3 em1_4 le1_5 gr1_6) [(0, .ref (h 0)), (1, .int (nI p)), (2, .ref (h 2)), (3, .int (bI w))] 0 0 5 []
  refine k_aload_n F (pc := 5) 2 rfl dX3_sendFlows_5 rfl ?_
  refine k_iload_n F (pc := 6) 1 rfl dX3_sendFlows_6 rfl ?_
  refine k_iconst F (pc := 7) ((nI 1)) dX3_sendFlows_7 (by decide) ?_
  refine k_iaddN F (pc := 8) dX3_sendFlows_8 ?_
  refine k_aload_n F (pc := 9) 0 rfl dX3_sendFlows_9 rfl ?_
  refine k_get F (pc := 10) (ref := RX3) (C := RX3) (T := TX3) (N := 8) (ci := 3) 0 6 dX3_sendFlows_10 zin_X3_sendFlows_X3 rfl rfl (by decide) zm_X3_sendFlows_f37 rfl rfl ?_
  refine k_iconst F (pc := 13) ((nI 0)) dX3_sendFlows_13 (by decide) ?_
  refine k_callV F (pc := 14) (C := RX2) (T := TX2) (N := 3) (ci := 2) [.int (nI (p + 1)), .ref (h 10), .int (bI false)] [] 3 (wX20 E (h 2) (h 3) (h 4) (h 5) on lo hi (h 10) (h 11) (h 12) fs1_1 lf1_2 hf1_3) [cObj (h 0) 3 [.ref (h 1), .int (nI n), .int (bI sc), .int (nI rt), .ref (h 2), .ref (h 6), .ref (h 10), .ref (h 13)], cInt E (h 1) 96 cd, cObj (h 6) 2 [.ref (h 7), .ref (h 8), .ref (h 9)], cBoo E (h 7) 24 son, cLng E (h 8) 96 slo, cLng E (h 9) 96 shi, cObj (h 13) 1 [.int (bI em1_4), .long le1_5, .long gr1_6]] [2, 3, 4, 5, 10, 11, 12] [0, 1, 6, 7, 8, 9, 13] (m_X2_take l E (h 2) (h 3) (h 4) (h 5) on lo hi (h 10) (h 11) (h 12) fs1_1 lf1_2 hf1_3 (nI (p + 1)) (p + 1) false S (fN cd p X) hRS hfn (fun h => ⟨nI_toInt (by omega), hN1 h⟩)) dX3_sendFlows_14 gX3_sendFlows_X2_take rfl (by decide +kernel) rfl ⟨rfl, rfl⟩ (by decide) rfl (Nat.le_of_ble_eq_true rfl) (by decide) rfl rfl rfl rfl (by decide) (by decide) (by decide) ?_
  rintro v_13 w_14 ⟨on1_9, lo1_10, hi1_11, r_12, rfl, rfl, hta⟩
  refine k_perm (wX3 E h cd n sc rt on1_9 lo1_10 hi1_11 son slo shi fs1_1 lf1_2 hf1_3 em1_4 le1_5 gr1_6) [0, 1, 7, 8, 9, 10, 2, 3, 4, 5, 11, 12, 13, 6] (by decide) rfl ?_
  show kK g (wX3 E h cd n sc rt on1_9 lo1_10 hi1_11 son slo shi fs1_1 lf1_2 hf1_3 em1_4 le1_5 gr1_6) [(0, .ref (h 0)), (1, .int (nI p)), (2, .ref (h 2)), (3, .int (bI w))] 0 0 17 [.int (bI r_12)]
  have hR2 : ∀ v, v < 4 → lo1_10 (4 * p + v) = X.1 v ∧ hi1_11 (4 * p + v) = X.2 v := ((hta.1 p (by omega)).2 X ((arr_other (by omega)).trans hSp)).2
  refine k_istore F (pc := 17) [(4, .int (bI r_12)), (0, .ref (h 0)), (1, .int (nI p)), (2, .ref (h 2)), (3, .int (bI w))] dX3_sendFlows_17 (by decide) rfl ?_
  refine k_aload_n F (pc := 19) 1 rfl dX3_sendFlows_19 rfl ?_
  refine k_iload_n F (pc := 20) 2 rfl dX3_sendFlows_20 rfl ?_
  refine k_callV F (pc := 21) (C := RX3) (T := TX3) (N := 8) (ci := 3) [.int (nI p)] [] 1 (wX3 E h cd n sc rt on1_9 lo1_10 hi1_11 son slo shi fs1_1 lf1_2 hf1_3 em1_4 le1_5 gr1_6) [] [0, 1, 2, 3, 4, 5, 6, 7, 8, 9, 10, 11, 12, 13] [] (m_X3_makeFlowToPlace l E h cd n sc rt on1_9 lo1_10 hi1_11 son slo shi fs1_1 lf1_2 hf1_3 em1_4 le1_5 gr1_6 p X (by omega) hok hR2) dX3_sendFlows_21 gX3_sendFlows_X3_makeFlowToPlace rfl (by decide +kernel) rfl ⟨rfl, rfl⟩ (by decide) rfl (Nat.le_of_ble_eq_true rfl) (by decide) rfl rfl rfl rfl (by decide) (by decide) (by decide) ?_
  rintro v_18 w_19 ⟨fs1_15, lf1_16, hf1_17, rfl, rfl, hfp⟩
  refine k_perm (wX3 E h cd n sc rt on1_9 lo1_10 hi1_11 son slo shi fs1_15 lf1_16 hf1_17 em1_4 le1_5 gr1_6) [0, 1, 2, 3, 4, 5, 6, 7, 8, 9, 10, 11, 12, 13] (by decide) rfl ?_
  show kK g (wX3 E h cd n sc rt on1_9 lo1_10 hi1_11 son slo shi fs1_15 lf1_16 hf1_17 em1_4 le1_5 gr1_6) [(4, .int (bI r_12)), (0, .ref (h 0)), (1, .int (nI p)), (2, .ref (h 2)), (3, .int (bI w))] 0 0 24 []
  refine k_aload_n F (pc := 24) 1 rfl dX3_sendFlows_24 rfl ?_
  refine k_get F (pc := 25) (ref := RX3) (C := RX3) (T := TX3) (N := 8) (ci := 3) 0 0 dX3_sendFlows_25 zin_X3_sendFlows_X3 rfl rfl (by decide) zm_X3_sendFlows_f9 rfl rfl ?_
  refine k_iload_n F (pc := 28) 2 rfl dX3_sendFlows_28 rfl ?_
  refine k_iconst F (pc := 29) ((nI 4)) dX3_sendFlows_29 (by decide) ?_
  refine k_imulC F (pc := 30) dX3_sendFlows_30 ?_
  refine k_iconst F (pc := 31) ((nI 3)) dX3_sendFlows_31 (by decide) ?_
  refine k_iaddN F (pc := 32) dX3_sendFlows_32 ?_
  refine k_iald F (pc := 33) 1 dX3_sendFlows_33 rfl (by omega) (by decide) ?_
  refine k_istore F (pc := 34) [(5, .int (cd (4 * p + 3))), (4, .int (bI r_12)), (0, .ref (h 0)), (1, .int (nI p)), (2, .ref (h 2)), (3, .int (bI w))] dX3_sendFlows_34 (by decide) rfl ?_
  refine k_aload_n F (pc := 36) 4 rfl dX3_sendFlows_36 rfl ?_
  refine k_iload F (pc := 37) 0 rfl dX3_sendFlows_37 ?_
  refine k_aload_n F (pc := 39) 2 rfl dX3_sendFlows_39 rfl ?_
  refine k_get F (pc := 40) (ref := RX3) (C := RX3) (T := TX3) (N := 8) (ci := 3) 0 6 dX3_sendFlows_40 zin_X3_sendFlows_X3 rfl rfl (by decide) zm_X3_sendFlows_f37 rfl rfl ?_
  have J58 : ∀ (wb : Bool), (wb = (w && decide ((cd (4 * p + 3)).toInt ≤ (p : Int)))) → kK g (wX3 E h cd n sc rt on1_9 lo1_10 hi1_11 son slo shi fs1_15 lf1_16 hf1_17 em1_4 le1_5 gr1_6) [(0, .ref (h 0)), (1, .int (nI p)), (2, .ref (h 2)), (3, .int (bI w)), (4, .int (bI r_12)), (5, .int (cd (4 * p + 3)))] 0 0 58 [.int (bI wb), .ref (h 10), .int (cd (4 * p + 3)), .ref (h 2)] := by
    intro wb hwb
    refine k_callV F (pc := 58) (C := RX2) (T := TX2) (N := 3) (ci := 2) [.int (cd (4 * p + 3)), .ref (h 10), .int (bI wb)] [] 3 (wX20 E (h 2) (h 3) (h 4) (h 5) on1_9 lo1_10 hi1_11 (h 10) (h 11) (h 12) fs1_15 lf1_16 hf1_17) [cObj (h 0) 3 [.ref (h 1), .int (nI n), .int (bI sc), .int (nI rt), .ref (h 2), .ref (h 6), .ref (h 10), .ref (h 13)], cInt E (h 1) 96 cd, cObj (h 6) 2 [.ref (h 7), .ref (h 8), .ref (h 9)], cBoo E (h 7) 24 son, cLng E (h 8) 96 slo, cLng E (h 9) 96 shi, cObj (h 13) 1 [.int (bI em1_4), .long le1_5, .long gr1_6]] [2, 3, 4, 5, 10, 11, 12] [0, 1, 6, 7, 8, 9, 13] (m_X2_take l E (h 2) (h 3) (h 4) (h 5) on1_9 lo1_10 hi1_11 (h 10) (h 11) (h 12) fs1_15 lf1_16 hf1_17 (cd (4 * p + 3)) ((cd (4 * p + 3)).toNatClampNeg) wb ((arr S (p + 1) (fN cd p X) false).2) (fP cd p X) hta.1 hfp (fP_in hok)) dX3_sendFlows_58 gX3_sendFlows_X2_take rfl (by decide +kernel) rfl ⟨rfl, rfl⟩ (by decide) rfl (Nat.le_of_ble_eq_true rfl) (by decide) rfl rfl rfl rfl (by decide) (by decide) (by decide) ?_
    rintro v_24 w_25 ⟨on1_20, lo1_21, hi1_22, r_23, rfl, rfl, htb⟩
    refine k_perm (wX3 E h cd n sc rt on1_20 lo1_21 hi1_22 son slo shi fs1_15 lf1_16 hf1_17 em1_4 le1_5 gr1_6) [0, 1, 7, 8, 9, 10, 2, 3, 4, 5, 11, 12, 13, 6] (by decide) rfl ?_
    show kK g (wX3 E h cd n sc rt on1_20 lo1_21 hi1_22 son slo shi fs1_15 lf1_16 hf1_17 em1_4 le1_5 gr1_6) [(0, .ref (h 0)), (1, .int (nI p)), (2, .ref (h 2)), (3, .int (bI w)), (4, .int (bI r_12)), (5, .int (cd (4 * p + 3)))] 0 0 61 [.int (bI r_23)]
    refine k_istore F (pc := 61) [(6, .int (bI r_23)), (0, .ref (h 0)), (1, .int (nI p)), (2, .ref (h 2)), (3, .int (bI w)), (4, .int (bI r_12)), (5, .int (cd (4 * p + 3)))] dX3_sendFlows_61 (by decide) rfl ?_
    refine k_iload F (pc := 63) 5 rfl dX3_sendFlows_63 ?_
    refine k_if_neB F (pc := 65) 73 dX3_sendFlows_65 (by decide) (fun c_26 => ?_) (fun c_26 => ?_)
    · skip
      refine k_iconst F (pc := 73) ((nI 1)) dX3_sendFlows_73 (by decide) ?_
      refine k_goto F (pc := 74) 78 dX3_sendFlows_74 (by decide) ?_
      refine k_zret F Rr (pc := 78) true dX3_sendFlows_78 rfl ⟨on1_20, lo1_21, hi1_22, fs1_15, lf1_16, hf1_17, em1_4, le1_5, gr1_6, true, rfl, rfl, ?_⟩
      rw [hwb] at htb
      refine ⟨htb.1, ?_⟩
      have q1 := hta.2
      have q2 := htb.2
      simp only [snd2]
      rw [← q1, ← q2]
      clear hta htb q1 q2
      simp [*]
    · skip
      refine k_iload F (pc := 68) 0 rfl dX3_sendFlows_68 ?_
      refine k_if_eqB F (pc := 70) 77 dX3_sendFlows_70 (by decide) (fun c_27 => ?_) (fun c_27 => ?_)
      · skip
        refine k_iconst F (pc := 77) ((nI 0)) dX3_sendFlows_77 (by decide) ?_
        refine k_zret F Rr (pc := 78) false dX3_sendFlows_78 rfl ⟨on1_20, lo1_21, hi1_22, fs1_15, lf1_16, hf1_17, em1_4, le1_5, gr1_6, false, rfl, rfl, ?_⟩
        rw [hwb] at htb
        refine ⟨htb.1, ?_⟩
        have q1 := hta.2
        have q2 := htb.2
        simp only [snd2]
        rw [← q1, ← q2]
        clear hta htb q1 q2
        simp [*]
      · skip
        refine k_iconst F (pc := 73) ((nI 1)) dX3_sendFlows_73 (by decide) ?_
        refine k_goto F (pc := 74) 78 dX3_sendFlows_74 (by decide) ?_
        refine k_zret F Rr (pc := 78) true dX3_sendFlows_78 rfl ⟨on1_20, lo1_21, hi1_22, fs1_15, lf1_16, hf1_17, em1_4, le1_5, gr1_6, true, rfl, rfl, ?_⟩
        rw [hwb] at htb
        refine ⟨htb.1, ?_⟩
        have q1 := hta.2
        have q2 := htb.2
        simp only [snd2]
        rw [← q1, ← q2]
        clear hta htb q1 q2
        simp [*]
  refine k_iload_n F (pc := 43) 5 rfl dX3_sendFlows_43 rfl ?_
  refine k_if_eqB F (pc := 44) 57 dX3_sendFlows_44 (by decide) (fun c_28 => ?_) (fun c_28 => ?_)
  · skip
    refine k_iconst F (pc := 57) ((nI 0)) dX3_sendFlows_57 (by decide) ?_
    refine k_lv [(0, .ref (h 0)), (1, .int (nI p)), (2, .ref (h 2)), (3, .int (bI w)), (4, .int (bI r_12)), (5, .int (cd (4 * p + 3)))] [2, 3, 4, 5, 1, 0] rfl ?_
    exact J58 false (by simp [*])
  · skip
    refine k_iload F (pc := 47) 0 rfl dX3_sendFlows_47 ?_
    refine k_iload_n F (pc := 49) 3 rfl dX3_sendFlows_49 rfl ?_
    refine k_icmp_gt F (pc := 50) 57 dX3_sendFlows_50 (by decide) rfl (nI_toInt (by omega)) (fun c_29 => ?_) (fun c_29 => ?_)
    · skip
      refine k_iconst F (pc := 57) ((nI 0)) dX3_sendFlows_57 (by decide) ?_
      refine k_lv [(0, .ref (h 0)), (1, .int (nI p)), (2, .ref (h 2)), (3, .int (bI w)), (4, .int (bI r_12)), (5, .int (cd (4 * p + 3)))] [2, 3, 4, 5, 1, 0] rfl ?_
      exact J58 false (by simp [*])
    · skip
      refine k_iconst F (pc := 53) ((nI 1)) dX3_sendFlows_53 (by decide) ?_
      refine k_goto F (pc := 54) 58 dX3_sendFlows_54 (by decide) ?_
      refine k_lv [(0, .ref (h 0)), (1, .int (nI p)), (2, .ref (h 2)), (3, .int (bI w)), (4, .int (bI r_12)), (5, .int (cd (4 * p + 3)))] [2, 3, 4, 5, 1, 0] rfl ?_
      exact J58 true (by simp [*])
theorem zm_X3_sendFlows__S_f37 : (Cond.fieldLink RX3 37 RX3 "flow" "LRangeScan$Flow;" : Cond) ∈ wsX3_sendFlows := by decide +kernel
theorem zin_X3_sendFlows__S_X3 : ∀ w ∈ u_ws RX3 TX3 8, w ∈ wsX3_sendFlows := by decide +kernel
theorem zm_X3_sendFlows__S_f9 : (Cond.fieldLink RX3 9 RX3 "codes" "[I" : Cond) ∈ wsX3_sendFlows := by decide +kernel
set_option maxHeartbeats 4000000 in
set_option maxRecDepth 100000 in
theorem m_X3_sendFlows__S (l : Launch) (E : kE) (h : Nat → Nat) (cd : Nat → Int32) (n : Nat) (sc : Bool) (rt : Nat) (on : Nat → Bool) (lo : Nat → Int64) (hi : Nat → Int64) (son : Nat → Bool) (slo : Nat → Int64) (shi : Nat → Int64) (fs : Bool) (lf : Nat → Int64) (hf : Nat → Int64) (em : Bool) (le : Int64) (gr : Int64) (p : Nat) (w : Bool) (X : IV × IV) (S : ST) (hn : n ≤ 24) (hp : p < n) (hok : okP cd p) (hX : okX X) (hRS : Rep son slo shi S) (hR2 : ∀ v, v < 4 → lo (4 * p + v) = X.1 v ∧ hi (4 * p + v) = X.2 v) (hN1 : fN cd p X ≠ none → p + 1 < 24) : kC l yX3_sendFlows wsX3_sendFlows ({ frames := 4, cells := 0, slots := 0, locals := 106 } : Room) E [.ref (h 0), .int (nI p), .ref (h 6), .int (bI w)] (wX3 E h cd n sc rt on lo hi son slo shi fs lf hf em le gr) 0 0 (fun v_ w_ => ∃ (son1 : Nat → Bool) (slo1 : Nat → Int64) (shi1 : Nat → Int64) (fs1 : Bool) (lf1 : Nat → Int64) (hf1 : Nat → Int64) (em1 : Bool) (le1 : Int64) (gr1 : Int64) (r : Bool), v_ = some (.int (bI r)) ∧ w_ = (wX3 E h cd n sc rt on lo hi son1 slo1 shi1 fs1 lf1 hf1 em1 le1 gr1) ∧ (Rep son1 slo1 shi1 (snd2 cd p X w S).2 ∧ r = (snd2 cd p X w S).1)) := by
  refine kC.enter cX3_sendFlows 7 (some .boolean) [(0, .ref (h 0)), (1, .int (nI p)), (2, .ref (h 6)), (3, .int (bI w))] (by decide) rfl (Nat.le_of_ble_eq_true rfl) rfl ?_
  intro g F Rr
  refine k_aload_n F (pc := 0) 0 rfl dX3_sendFlows_0 rfl ?_
  refine k_iload_n F (pc := 1) 1 rfl dX3_sendFlows_1 rfl ?_
  refine k_callV F (pc := 2) (C := RX3) (T := TX3) (N := 8) (ci := 3) [.int (nI p)] [] 1 (wX3 E h cd n sc rt on lo hi son slo shi fs lf hf em le gr) [] [0, 1, 2, 3, 4, 5, 6, 7, 8, 9, 10, 11, 12, 13] [] (m_X3_makeFlowToNext l E h cd n sc rt on lo hi son slo shi fs lf hf em le gr p X (by omega) hok hX hR2) dX3_sendFlows_2 gX3_sendFlows_X3_makeFlowToNext rfl (by decide +kernel) rfl ⟨rfl, rfl⟩ (by decide) rfl (Nat.le_of_ble_eq_true rfl) (by decide) rfl rfl rfl rfl (by decide) (by decide) (by decide) ?_
  rintro v_7 w_8 ⟨fs1_1, lf1_2, hf1_3, em1_4, le1_5, gr1_6, rfl, rfl, hfn⟩
  refine k_perm (wX3 E h cd n sc rt on lo hi son slo shi fs1_1 lf1_2 hf1_3 em1_4 le1_5 gr1_6) [0, 1, 2, 3, 4, 5, 6, 7, 8, 9, 10, 11, 12, 13] (by decide) rfl ?_
  show kK g (wX3 E h cd n sc rt on lo hi son slo shi fs1_1 lf1_2 hf1_3 em1_4 le1_5 gr1_6) [(0, .ref (h 0)), (1, .int (nI p)), (2, .ref (h 6)), (3, .int (bI w))] 0 0 5 []
  refine k_aload_n F (pc := 5) 2 rfl dX3_sendFlows_5 rfl ?_
  refine k_iload_n F (pc := 6) 1 rfl dX3_sendFlows_6 rfl ?_
  refine k_iconst F (pc := 7) ((nI 1)) dX3_sendFlows_7 (by decide) ?_
  refine k_iaddN F (pc := 8) dX3_sendFlows_8 ?_
  refine k_aload_n F (pc := 9) 0 rfl dX3_sendFlows_9 rfl ?_
  refine k_get F (pc := 10) (ref := RX3) (C := RX3) (T := TX3) (N := 8) (ci := 3) 0 6 dX3_sendFlows_10 zin_X3_sendFlows__S_X3 rfl rfl (by decide) zm_X3_sendFlows__S_f37 rfl rfl ?_
  refine k_iconst F (pc := 13) ((nI 0)) dX3_sendFlows_13 (by decide) ?_
  refine k_callV F (pc := 14) (C := RX2) (T := TX2) (N := 3) (ci := 2) [.int (nI (p + 1)), .ref (h 10), .int (bI false)] [] 3 (wX20 E (h 6) (h 7) (h 8) (h 9) son slo shi (h 10) (h 11) (h 12) fs1_1 lf1_2 hf1_3) [cObj (h 0) 3 [.ref (h 1), .int (nI n), .int (bI sc), .int (nI rt), .ref (h 2), .ref (h 6), .ref (h 10), .ref (h 13)], cInt E (h 1) 96 cd, cObj (h 2) 2 [.ref (h 3), .ref (h 4), .ref (h 5)], cBoo E (h 3) 24 on, cLng E (h 4) 96 lo, cLng E (h 5) 96 hi, cObj (h 13) 1 [.int (bI em1_4), .long le1_5, .long gr1_6]] [6, 7, 8, 9, 10, 11, 12] [0, 1, 2, 3, 4, 5, 13] (m_X2_take l E (h 6) (h 7) (h 8) (h 9) son slo shi (h 10) (h 11) (h 12) fs1_1 lf1_2 hf1_3 (nI (p + 1)) (p + 1) false S (fN cd p X) hRS hfn (fun h => ⟨nI_toInt (by omega), hN1 h⟩)) dX3_sendFlows_14 gX3_sendFlows_X2_take rfl (by decide +kernel) rfl ⟨rfl, rfl⟩ (by decide) rfl (Nat.le_of_ble_eq_true rfl) (by decide) rfl rfl rfl rfl (by decide) (by decide) (by decide) ?_
  rintro v_13 w_14 ⟨on1_9, lo1_10, hi1_11, r_12, rfl, rfl, hta⟩
  refine k_perm (wX3 E h cd n sc rt on lo hi on1_9 lo1_10 hi1_11 fs1_1 lf1_2 hf1_3 em1_4 le1_5 gr1_6) [0, 1, 2, 3, 4, 5, 7, 8, 9, 10, 11, 12, 13, 6] (by decide) rfl ?_
  show kK g (wX3 E h cd n sc rt on lo hi on1_9 lo1_10 hi1_11 fs1_1 lf1_2 hf1_3 em1_4 le1_5 gr1_6) [(0, .ref (h 0)), (1, .int (nI p)), (2, .ref (h 6)), (3, .int (bI w))] 0 0 17 [.int (bI r_12)]
  refine k_istore F (pc := 17) [(4, .int (bI r_12)), (0, .ref (h 0)), (1, .int (nI p)), (2, .ref (h 6)), (3, .int (bI w))] dX3_sendFlows_17 (by decide) rfl ?_
  refine k_aload_n F (pc := 19) 1 rfl dX3_sendFlows_19 rfl ?_
  refine k_iload_n F (pc := 20) 2 rfl dX3_sendFlows_20 rfl ?_
  refine k_callV F (pc := 21) (C := RX3) (T := TX3) (N := 8) (ci := 3) [.int (nI p)] [] 1 (wX3 E h cd n sc rt on lo hi on1_9 lo1_10 hi1_11 fs1_1 lf1_2 hf1_3 em1_4 le1_5 gr1_6) [] [0, 1, 2, 3, 4, 5, 6, 7, 8, 9, 10, 11, 12, 13] [] (m_X3_makeFlowToPlace l E h cd n sc rt on lo hi on1_9 lo1_10 hi1_11 fs1_1 lf1_2 hf1_3 em1_4 le1_5 gr1_6 p X (by omega) hok hR2) dX3_sendFlows_21 gX3_sendFlows_X3_makeFlowToPlace rfl (by decide +kernel) rfl ⟨rfl, rfl⟩ (by decide) rfl (Nat.le_of_ble_eq_true rfl) (by decide) rfl rfl rfl rfl (by decide) (by decide) (by decide) ?_
  rintro v_18 w_19 ⟨fs1_15, lf1_16, hf1_17, rfl, rfl, hfp⟩
  refine k_perm (wX3 E h cd n sc rt on lo hi on1_9 lo1_10 hi1_11 fs1_15 lf1_16 hf1_17 em1_4 le1_5 gr1_6) [0, 1, 2, 3, 4, 5, 6, 7, 8, 9, 10, 11, 12, 13] (by decide) rfl ?_
  show kK g (wX3 E h cd n sc rt on lo hi on1_9 lo1_10 hi1_11 fs1_15 lf1_16 hf1_17 em1_4 le1_5 gr1_6) [(4, .int (bI r_12)), (0, .ref (h 0)), (1, .int (nI p)), (2, .ref (h 6)), (3, .int (bI w))] 0 0 24 []
  refine k_aload_n F (pc := 24) 1 rfl dX3_sendFlows_24 rfl ?_
  refine k_get F (pc := 25) (ref := RX3) (C := RX3) (T := TX3) (N := 8) (ci := 3) 0 0 dX3_sendFlows_25 zin_X3_sendFlows__S_X3 rfl rfl (by decide) zm_X3_sendFlows__S_f9 rfl rfl ?_
  refine k_iload_n F (pc := 28) 2 rfl dX3_sendFlows_28 rfl ?_
  refine k_iconst F (pc := 29) ((nI 4)) dX3_sendFlows_29 (by decide) ?_
  refine k_imulC F (pc := 30) dX3_sendFlows_30 ?_
  refine k_iconst F (pc := 31) ((nI 3)) dX3_sendFlows_31 (by decide) ?_
  refine k_iaddN F (pc := 32) dX3_sendFlows_32 ?_
  refine k_iald F (pc := 33) 1 dX3_sendFlows_33 rfl (by omega) (by decide) ?_
  refine k_istore F (pc := 34) [(5, .int (cd (4 * p + 3))), (4, .int (bI r_12)), (0, .ref (h 0)), (1, .int (nI p)), (2, .ref (h 6)), (3, .int (bI w))] dX3_sendFlows_34 (by decide) rfl ?_
  refine k_aload_n F (pc := 36) 4 rfl dX3_sendFlows_36 rfl ?_
  refine k_iload F (pc := 37) 0 rfl dX3_sendFlows_37 ?_
  refine k_aload_n F (pc := 39) 2 rfl dX3_sendFlows_39 rfl ?_
  refine k_get F (pc := 40) (ref := RX3) (C := RX3) (T := TX3) (N := 8) (ci := 3) 0 6 dX3_sendFlows_40 zin_X3_sendFlows__S_X3 rfl rfl (by decide) zm_X3_sendFlows__S_f37 rfl rfl ?_
  have J58 : ∀ (wb : Bool), (wb = (w && decide ((cd (4 * p + 3)).toInt ≤ (p : Int)))) → kK g (wX3 E h cd n sc rt on lo hi on1_9 lo1_10 hi1_11 fs1_15 lf1_16 hf1_17 em1_4 le1_5 gr1_6) [(0, .ref (h 0)), (1, .int (nI p)), (2, .ref (h 6)), (3, .int (bI w)), (4, .int (bI r_12)), (5, .int (cd (4 * p + 3)))] 0 0 58 [.int (bI wb), .ref (h 10), .int (cd (4 * p + 3)), .ref (h 6)] := by
    intro wb hwb
    refine k_callV F (pc := 58) (C := RX2) (T := TX2) (N := 3) (ci := 2) [.int (cd (4 * p + 3)), .ref (h 10), .int (bI wb)] [] 3 (wX20 E (h 6) (h 7) (h 8) (h 9) on1_9 lo1_10 hi1_11 (h 10) (h 11) (h 12) fs1_15 lf1_16 hf1_17) [cObj (h 0) 3 [.ref (h 1), .int (nI n), .int (bI sc), .int (nI rt), .ref (h 2), .ref (h 6), .ref (h 10), .ref (h 13)], cInt E (h 1) 96 cd, cObj (h 2) 2 [.ref (h 3), .ref (h 4), .ref (h 5)], cBoo E (h 3) 24 on, cLng E (h 4) 96 lo, cLng E (h 5) 96 hi, cObj (h 13) 1 [.int (bI em1_4), .long le1_5, .long gr1_6]] [6, 7, 8, 9, 10, 11, 12] [0, 1, 2, 3, 4, 5, 13] (m_X2_take l E (h 6) (h 7) (h 8) (h 9) on1_9 lo1_10 hi1_11 (h 10) (h 11) (h 12) fs1_15 lf1_16 hf1_17 (cd (4 * p + 3)) ((cd (4 * p + 3)).toNatClampNeg) wb ((arr S (p + 1) (fN cd p X) false).2) (fP cd p X) hta.1 hfp (fP_in hok)) dX3_sendFlows_58 gX3_sendFlows_X2_take rfl (by decide +kernel) rfl ⟨rfl, rfl⟩ (by decide) rfl (Nat.le_of_ble_eq_true rfl) (by decide) rfl rfl rfl rfl (by decide) (by decide) (by decide) ?_
    rintro v_24 w_25 ⟨on1_20, lo1_21, hi1_22, r_23, rfl, rfl, htb⟩
    refine k_perm (wX3 E h cd n sc rt on lo hi on1_20 lo1_21 hi1_22 fs1_15 lf1_16 hf1_17 em1_4 le1_5 gr1_6) [0, 1, 2, 3, 4, 5, 7, 8, 9, 10, 11, 12, 13, 6] (by decide) rfl ?_
    show kK g (wX3 E h cd n sc rt on lo hi on1_20 lo1_21 hi1_22 fs1_15 lf1_16 hf1_17 em1_4 le1_5 gr1_6) [(0, .ref (h 0)), (1, .int (nI p)), (2, .ref (h 6)), (3, .int (bI w)), (4, .int (bI r_12)), (5, .int (cd (4 * p + 3)))] 0 0 61 [.int (bI r_23)]
    refine k_istore F (pc := 61) [(6, .int (bI r_23)), (0, .ref (h 0)), (1, .int (nI p)), (2, .ref (h 6)), (3, .int (bI w)), (4, .int (bI r_12)), (5, .int (cd (4 * p + 3)))] dX3_sendFlows_61 (by decide) rfl ?_
    refine k_iload F (pc := 63) 5 rfl dX3_sendFlows_63 ?_
    refine k_if_neB F (pc := 65) 73 dX3_sendFlows_65 (by decide) (fun c_26 => ?_) (fun c_26 => ?_)
    · skip
      refine k_iconst F (pc := 73) ((nI 1)) dX3_sendFlows_73 (by decide) ?_
      refine k_goto F (pc := 74) 78 dX3_sendFlows_74 (by decide) ?_
      refine k_zret F Rr (pc := 78) true dX3_sendFlows_78 rfl ⟨on1_20, lo1_21, hi1_22, fs1_15, lf1_16, hf1_17, em1_4, le1_5, gr1_6, true, rfl, rfl, ?_⟩
      rw [hwb] at htb
      refine ⟨htb.1, ?_⟩
      have q1 := hta.2
      have q2 := htb.2
      simp only [snd2]
      rw [← q1, ← q2]
      clear hta htb q1 q2
      simp [*]
    · skip
      refine k_iload F (pc := 68) 0 rfl dX3_sendFlows_68 ?_
      refine k_if_eqB F (pc := 70) 77 dX3_sendFlows_70 (by decide) (fun c_27 => ?_) (fun c_27 => ?_)
      · skip
        refine k_iconst F (pc := 77) ((nI 0)) dX3_sendFlows_77 (by decide) ?_
        refine k_zret F Rr (pc := 78) false dX3_sendFlows_78 rfl ⟨on1_20, lo1_21, hi1_22, fs1_15, lf1_16, hf1_17, em1_4, le1_5, gr1_6, false, rfl, rfl, ?_⟩
        rw [hwb] at htb
        refine ⟨htb.1, ?_⟩
        have q1 := hta.2
        have q2 := htb.2
        simp only [snd2]
        rw [← q1, ← q2]
        clear hta htb q1 q2
        simp [*]
      · skip
        refine k_iconst F (pc := 73) ((nI 1)) dX3_sendFlows_73 (by decide) ?_
        refine k_goto F (pc := 74) 78 dX3_sendFlows_74 (by decide) ?_
        refine k_zret F Rr (pc := 78) true dX3_sendFlows_78 rfl ⟨on1_20, lo1_21, hi1_22, fs1_15, lf1_16, hf1_17, em1_4, le1_5, gr1_6, true, rfl, rfl, ?_⟩
        rw [hwb] at htb
        refine ⟨htb.1, ?_⟩
        have q1 := hta.2
        have q2 := htb.2
        simp only [snd2]
        rw [← q1, ← q2]
        clear hta htb q1 q2
        simp [*]
  refine k_iload_n F (pc := 43) 5 rfl dX3_sendFlows_43 rfl ?_
  refine k_if_eqB F (pc := 44) 57 dX3_sendFlows_44 (by decide) (fun c_28 => ?_) (fun c_28 => ?_)
  · skip
    refine k_iconst F (pc := 57) ((nI 0)) dX3_sendFlows_57 (by decide) ?_
    refine k_lv [(0, .ref (h 0)), (1, .int (nI p)), (2, .ref (h 6)), (3, .int (bI w)), (4, .int (bI r_12)), (5, .int (cd (4 * p + 3)))] [2, 3, 4, 5, 1, 0] rfl ?_
    exact J58 false (by simp [*])
  · skip
    refine k_iload F (pc := 47) 0 rfl dX3_sendFlows_47 ?_
    refine k_iload_n F (pc := 49) 3 rfl dX3_sendFlows_49 rfl ?_
    refine k_icmp_gt F (pc := 50) 57 dX3_sendFlows_50 (by decide) rfl (nI_toInt (by omega)) (fun c_29 => ?_) (fun c_29 => ?_)
    · skip
      refine k_iconst F (pc := 57) ((nI 0)) dX3_sendFlows_57 (by decide) ?_
      refine k_lv [(0, .ref (h 0)), (1, .int (nI p)), (2, .ref (h 6)), (3, .int (bI w)), (4, .int (bI r_12)), (5, .int (cd (4 * p + 3)))] [2, 3, 4, 5, 1, 0] rfl ?_
      exact J58 false (by simp [*])
    · skip
      refine k_iconst F (pc := 53) ((nI 1)) dX3_sendFlows_53 (by decide) ?_
      refine k_goto F (pc := 54) 58 dX3_sendFlows_54 (by decide) ?_
      refine k_lv [(0, .ref (h 0)), (1, .int (nI p)), (2, .ref (h 6)), (3, .int (bI w)), (4, .int (bI r_12)), (5, .int (cd (4 * p + 3)))] [2, 3, 4, 5, 1, 0] rfl ?_
      exact J58 true (by simp [*])
theorem zm_X3_runRound_f13 : (Cond.fieldLink RX3 13 RX3 "count" "I" : Cond) ∈ wsX3_runRound := by decide +kernel
theorem zin_X3_runRound_X3 : ∀ w ∈ u_ws RX3 TX3 8, w ∈ wsX3_runRound := by decide +kernel
theorem zm_X3_runRound_f27 : (Cond.fieldLink RX3 27 RX3 "found" "LRangeScan$States;" : Cond) ∈ wsX3_runRound := by decide +kernel
set_option maxHeartbeats 4000000 in
set_option maxRecDepth 100000 in
theorem m_X3_runRound (l : Launch) (E : kE) (h : Nat → Nat) (cd : Nat → Int32) (n : Nat) (sc : Bool) (rt : Nat) (on : Nat → Bool) (lo : Nat → Int64) (hi : Nat → Int64) (son : Nat → Bool) (slo : Nat → Int64) (shi : Nat → Int64) (fs : Bool) (lf : Nat → Int64) (hf : Nat → Int64) (em : Bool) (le : Int64) (gr : Int64) (S : ST) (hn : n ≤ 24) (hok : ∀ p, p < n → okP cd p) (hwh : wholeP cd n) (hRS : Rep on lo hi S) (hoS : ∀ k, k ≤ n → okS (rndTo cd S k).2) : kC l yX3_runRound wsX3_runRound ({ frames := 5, cells := 0, slots := 0, locals := 132 } : Room) E [.ref (h 0)] (wX3 E h cd n sc rt on lo hi son slo shi fs lf hf em le gr) 0 0 (fun v_ w_ => ∃ (on1 : Nat → Bool) (lo1 : Nat → Int64) (hi1 : Nat → Int64) (fs1 : Bool) (lf1 : Nat → Int64) (hf1 : Nat → Int64) (em1 : Bool) (le1 : Int64) (gr1 : Int64) (r : Bool), v_ = some (.int (bI r)) ∧ w_ = (wX3 E h cd n sc rt on1 lo1 hi1 son slo shi fs1 lf1 hf1 em1 le1 gr1) ∧ (Rep on1 lo1 hi1 (rndTo cd S n).2 ∧ r = (rndTo cd S n).1)) := by
  refine kC.enter cX3_runRound 3 (some .boolean) [(0, .ref (h 0))] (by decide) rfl (Nat.le_of_ble_eq_true rfl) rfl ?_
  intro g F Rr
  refine k_iconst F (pc := 0) ((nI 0)) dX3_runRound_0 (by decide) ?_
  refine k_istore_n F (pc := 1) [(1, .int (nI 0)), (0, .ref (h 0))] dX3_runRound_1 rfl (by decide) rfl ?_
  refine k_iconst F (pc := 2) ((nI 0)) dX3_runRound_2 (by decide) ?_
  refine k_istore_n F (pc := 3) [(2, .int (nI 0)), (1, .int (nI 0)), (0, .ref (h 0))] dX3_runRound_3 rfl (by decide) rfl ?_
  have L4 : ∀ (d_ : Nat) (i : Nat) (ch : Bool) (on2 : Nat → Bool) (lo2 : Nat → Int64) (hi2 : Nat → Int64) (fs2 : Bool) (lf2 : Nat → Int64) (hf2 : Nat → Int64) (em2 : Bool) (le2 : Int64) (gr2 : Int64), n - i < d_ → (i ≤ n) → (Rep on2 lo2 hi2 (rndTo cd S i).2) → (ch = (rndTo cd S i).1) → kK g (wX3 E h cd n sc rt on2 lo2 hi2 son slo shi fs2 lf2 hf2 em2 le2 gr2) [(0, .ref (h 0)), (1, .int (bI ch)), (2, .int (nI i))] 0 0 4 [] := by
    intro d_
    induction d_ with
    | zero => intro i ch on2 lo2 hi2 fs2 lf2 hf2 em2 le2 gr2 hm; exact absurd hm (Nat.not_lt_zero _)
    | succ d_ ih4 =>
      intro i ch on2 lo2 hi2 fs2 lf2 hf2 em2 le2 gr2 hm4 hin hrp hch
      refine k_iload_n F (pc := 4) 2 rfl dX3_runRound_4 rfl ?_
      refine k_aload_n F (pc := 5) 0 rfl dX3_runRound_5 rfl ?_
      refine k_get F (pc := 6) (ref := RX3) (C := RX3) (T := TX3) (N := 8) (ci := 3) 0 1 dX3_runRound_6 zin_X3_runRound_X3 rfl rfl (by decide) zm_X3_runRound_f13 rfl rfl ?_
      refine k_icmp_ge F (pc := 9) 44 dX3_runRound_9 (by decide) (nI_toInt (by omega)) (nI_toInt (by omega)) (fun c_1 => ?_) (fun c_1 => ?_)
      · skip
        refine k_iload_n F (pc := 44) 1 rfl dX3_runRound_44 rfl ?_
        refine k_zret F Rr (pc := 45) ch dX3_runRound_45 rfl ⟨on2, lo2, hi2, fs2, lf2, hf2, em2, le2, gr2, ch, rfl, rfl, ?_⟩
        rw [show i = n by omega] at hrp hch
        exact ⟨hrp, hch⟩
      · skip
        refine k_aload_n F (pc := 12) 0 rfl dX3_runRound_12 rfl ?_
        refine k_get F (pc := 13) (ref := RX3) (C := RX3) (T := TX3) (N := 8) (ci := 3) 0 4 dX3_runRound_13 zin_X3_runRound_X3 rfl rfl (by decide) zm_X3_runRound_f27 rfl rfl ?_
        refine k_iload_n F (pc := 16) 2 rfl dX3_runRound_16 rfl ?_
        refine k_callV F (pc := 17) (C := RX2) (T := TX2) (N := 3) (ci := 2) [.int (nI i)] [] 1 (wX2 E (h 2) (h 3) (h 4) (h 5) on2 lo2 hi2) [cObj (h 0) 3 [.ref (h 1), .int (nI n), .int (bI sc), .int (nI rt), .ref (h 2), .ref (h 6), .ref (h 10), .ref (h 13)], cInt E (h 1) 96 cd, cObj (h 6) 2 [.ref (h 7), .ref (h 8), .ref (h 9)], cBoo E (h 7) 24 son, cLng E (h 8) 96 slo, cLng E (h 9) 96 shi, cObj (h 10) 0 [.int (bI fs2), .ref (h 11), .ref (h 12)], cLng E (h 11) 4 lf2, cLng E (h 12) 4 hf2, cObj (h 13) 1 [.int (bI em2), .long le2, .long gr2]] [2, 3, 4, 5] [0, 1, 6, 7, 8, 9, 10, 11, 12, 13] (m_X2_isSomewhere l E (h 2) (h 3) (h 4) (h 5) on2 lo2 hi2 i (by omega)) dX3_runRound_17 gX3_runRound_X2_isSomewhere rfl (by decide +kernel) rfl ⟨rfl, rfl⟩ (by decide) rfl (Nat.le_of_ble_eq_true rfl) (by decide) rfl rfl rfl rfl (by decide) (by decide) (by decide) ?_
        rintro v_2 w_3 ⟨rfl, rfl⟩
        refine k_perm (wX3 E h cd n sc rt on2 lo2 hi2 son slo shi fs2 lf2 hf2 em2 le2 gr2) [0, 1, 10, 11, 12, 13, 2, 3, 4, 5, 6, 7, 8, 9] (by decide) rfl ?_
        show kK g (wX3 E h cd n sc rt on2 lo2 hi2 son slo shi fs2 lf2 hf2 em2 le2 gr2) [(0, .ref (h 0)), (1, .int (bI ch)), (2, .int (nI i))] 0 0 20 [.int (bI (on2 i))]
        refine k_if_eqB F (pc := 20) 38 dX3_runRound_20 (by decide) (fun c_4 => ?_) (fun c_4 => ?_)
        · skip
          have hnone := hrp.off (by omega) c_4
          refine k_iinc F (pc := 38) 2 ((nI (i + 1))) [(2, .int (nI (i + 1))), (0, .ref (h 0)), (1, .int (bI ch))] dX3_runRound_38 rfl (nI_1 i) (by decide) rfl ?_
          refine k_goto F (pc := 41) 4 dX3_runRound_41 (by decide) ?_
          refine k_lv [(0, .ref (h 0)), (1, .int (bI ch)), (2, .int (nI (i + 1)))] [1, 2, 0] rfl ?_
          exact ih4 (i + 1) ch on2 lo2 hi2 fs2 lf2 hf2 em2 le2 gr2 (by omega) (by omega) (by first | (rw [rnd_none hnone]; exact hrp) | (rw [rnd_some hsome]; exact hsf.1)) (by first | (rw [rnd_none hnone]; exact hch) | (rw [rnd_ch hsome hsf.2 hch]; clear hsf hch; simp [*]))
        · skip
          obtain ⟨X, hsome, hXv⟩ := hrp.up (by omega) c_4
          refine k_aload_n F (pc := 23) 0 rfl dX3_runRound_23 rfl ?_
          refine k_iload_n F (pc := 24) 2 rfl dX3_runRound_24 rfl ?_
          refine k_aload_n F (pc := 25) 0 rfl dX3_runRound_25 rfl ?_
          refine k_get F (pc := 26) (ref := RX3) (C := RX3) (T := TX3) (N := 8) (ci := 3) 0 4 dX3_runRound_26 zin_X3_runRound_X3 rfl rfl (by decide) zm_X3_runRound_f27 rfl rfl ?_
          refine k_iconst F (pc := 29) ((nI 1)) dX3_runRound_29 (by decide) ?_
          refine k_callV F (pc := 30) (C := RX3) (T := TX3) (N := 8) (ci := 3) [.int (nI i), .ref (h 2), .int (bI true)] [] 3 (wX3 E h cd n sc rt on2 lo2 hi2 son slo shi fs2 lf2 hf2 em2 le2 gr2) [] [0, 1, 2, 3, 4, 5, 6, 7, 8, 9, 10, 11, 12, 13] [] (m_X3_sendFlows l E h cd n sc rt on2 lo2 hi2 son slo shi fs2 lf2 hf2 em2 le2 gr2 i true X ((rndTo cd S i).2) (by omega) (by omega) (hok i (by omega)) (hoS i (by omega) _ _ hsome) hrp hsome (fun h => by have := fN_in hn hwh (by omega) h; omega)) dX3_runRound_30 gX3_runRound_X3_sendFlows rfl (by decide +kernel) rfl ⟨rfl, rfl⟩ (by decide) rfl (Nat.le_of_ble_eq_true rfl) (by decide) rfl rfl rfl rfl (by decide) (by decide) (by decide) ?_
          rintro v_15 w_16 ⟨on1_5, lo1_6, hi1_7, fs1_8, lf1_9, hf1_10, em1_11, le1_12, gr1_13, r_14, rfl, rfl, hsf⟩
          refine k_perm (wX3 E h cd n sc rt on1_5 lo1_6 hi1_7 son slo shi fs1_8 lf1_9 hf1_10 em1_11 le1_12 gr1_13) [0, 1, 2, 3, 4, 5, 6, 7, 8, 9, 10, 11, 12, 13] (by decide) rfl ?_
          show kK g (wX3 E h cd n sc rt on1_5 lo1_6 hi1_7 son slo shi fs1_8 lf1_9 hf1_10 em1_11 le1_12 gr1_13) [(0, .ref (h 0)), (1, .int (bI ch)), (2, .int (nI i))] 0 0 33 [.int (bI r_14)]
          refine k_if_eqB F (pc := 33) 38 dX3_runRound_33 (by decide) (fun c_17 => ?_) (fun c_17 => ?_)
          · skip
            refine k_iinc F (pc := 38) 2 ((nI (i + 1))) [(2, .int (nI (i + 1))), (0, .ref (h 0)), (1, .int (bI ch))] dX3_runRound_38 rfl (nI_1 i) (by decide) rfl ?_
            refine k_goto F (pc := 41) 4 dX3_runRound_41 (by decide) ?_
            refine k_lv [(0, .ref (h 0)), (1, .int (bI ch)), (2, .int (nI (i + 1)))] [1, 2, 0] rfl ?_
            exact ih4 (i + 1) ch on1_5 lo1_6 hi1_7 fs1_8 lf1_9 hf1_10 em1_11 le1_12 gr1_13 (by omega) (by omega) (by first | (rw [rnd_none hnone]; exact hrp) | (rw [rnd_some hsome]; exact hsf.1)) (by first | (rw [rnd_none hnone]; exact hch) | (rw [rnd_ch hsome hsf.2 hch]; clear hsf hch; simp [*]))
          · skip
            refine k_iconst F (pc := 36) ((nI 1)) dX3_runRound_36 (by decide) ?_
            refine k_istore_n F (pc := 37) [(1, .int (nI 1)), (0, .ref (h 0)), (2, .int (nI i))] dX3_runRound_37 rfl (by decide) rfl ?_
            refine k_iinc F (pc := 38) 2 ((nI (i + 1))) [(2, .int (nI (i + 1))), (1, .int (nI 1)), (0, .ref (h 0))] dX3_runRound_38 rfl (nI_1 i) (by decide) rfl ?_
            refine k_goto F (pc := 41) 4 dX3_runRound_41 (by decide) ?_
            refine k_lv [(0, .ref (h 0)), (1, .int (nI 1)), (2, .int (nI (i + 1)))] [2, 1, 0] rfl ?_
            exact ih4 (i + 1) true on1_5 lo1_6 hi1_7 fs1_8 lf1_9 hf1_10 em1_11 le1_12 gr1_13 (by omega) (by omega) (by first | (rw [rnd_none hnone]; exact hrp) | (rw [rnd_some hsome]; exact hsf.1)) (by first | (rw [rnd_none hnone]; exact hch) | (rw [rnd_ch hsome hsf.2 hch]; clear hsf hch; simp [*]))
  refine k_lv [(0, .ref (h 0)), (1, .int (nI 0)), (2, .int (nI 0))] [2, 1, 0] rfl ?_
  exact L4 (n - 0 + 1) 0 false on lo hi fs lf hf em le gr (Nat.lt_succ_self _) (by omega) (by exact hRS) (by rfl)
theorem zm_X3_settle_f31 : (Cond.fieldLink RX3 31 RX3 "settled" "LRangeScan$States;" : Cond) ∈ wsX3_settle := by decide +kernel
theorem zin_X3_settle_X3 : ∀ w ∈ u_ws RX3 TX3 8, w ∈ wsX3_settle := by decide +kernel
theorem zm_X3_settle_f13 : (Cond.fieldLink RX3 13 RX3 "count" "I" : Cond) ∈ wsX3_settle := by decide +kernel
theorem zm_X3_settle_f27 : (Cond.fieldLink RX3 27 RX3 "found" "LRangeScan$States;" : Cond) ∈ wsX3_settle := by decide +kernel
set_option maxHeartbeats 4000000 in
set_option maxRecDepth 100000 in
theorem m_X3_settle (l : Launch) (E : kE) (h : Nat → Nat) (cd : Nat → Int32) (n : Nat) (sc : Bool) (rt : Nat) (on : Nat → Bool) (lo : Nat → Int64) (hi : Nat → Int64) (son : Nat → Bool) (slo : Nat → Int64) (shi : Nat → Int64) (fs : Bool) (lf : Nat → Int64) (hf : Nat → Int64) (em : Bool) (le : Int64) (gr : Int64) (S : ST) (hn : n ≤ 24) (hok : ∀ p, p < n → okP cd p) (hwh : wholeP cd n) (hRS : Rep on lo hi S) (hoS : okS S) : kC l yX3_settle wsX3_settle ({ frames := 5, cells := 0, slots := 0, locals := 132 } : Room) E [.ref (h 0)] (wX3 E h cd n sc rt on lo hi son slo shi fs lf hf em le gr) 0 0 (fun v_ w_ => ∃ (son1 : Nat → Bool) (slo1 : Nat → Int64) (shi1 : Nat → Int64) (fs1 : Bool) (lf1 : Nat → Int64) (hf1 : Nat → Int64) (em1 : Bool) (le1 : Int64) (gr1 : Int64), v_ = none ∧ w_ = (wX3 E h cd n sc rt on lo hi son1 slo1 shi1 fs1 lf1 hf1 em1 le1 gr1) ∧ (Rep son1 slo1 shi1 (setTo cd S n))) := by
  refine kC.enter cX3_settle 2 none [(0, .ref (h 0))] (by decide) rfl (Nat.le_of_ble_eq_true rfl) rfl ?_
  intro g F Rr
  refine k_aload_n F (pc := 0) 0 rfl dX3_settle_0 rfl ?_
  refine k_get F (pc := 1) (ref := RX3) (C := RX3) (T := TX3) (N := 8) (ci := 3) 0 5 dX3_settle_1 zin_X3_settle_X3 rfl rfl (by decide) zm_X3_settle_f31 rfl rfl ?_
  refine k_callV F (pc := 4) (C := RX2) (T := TX2) (N := 3) (ci := 2) [] [] 0 (wX2 E (h 6) (h 7) (h 8) (h 9) son slo shi) [cObj (h 0) 3 [.ref (h 1), .int (nI n), .int (bI sc), .int (nI rt), .ref (h 2), .ref (h 6), .ref (h 10), .ref (h 13)], cInt E (h 1) 96 cd, cObj (h 2) 2 [.ref (h 3), .ref (h 4), .ref (h 5)], cBoo E (h 3) 24 on, cLng E (h 4) 96 lo, cLng E (h 5) 96 hi, cObj (h 10) 0 [.int (bI fs), .ref (h 11), .ref (h 12)], cLng E (h 11) 4 lf, cLng E (h 12) 4 hf, cObj (h 13) 1 [.int (bI em), .long le, .long gr]] [6, 7, 8, 9] [0, 1, 2, 3, 4, 5, 10, 11, 12, 13] (m_X2_begin l E (h 6) (h 7) (h 8) (h 9) son slo shi) dX3_settle_4 gX3_settle_X2_begin rfl (by decide +kernel) rfl ⟨rfl, rfl⟩ (by decide) rfl (Nat.le_of_ble_eq_true rfl) (by decide) rfl rfl rfl rfl (by decide) (by decide) (by decide) ?_
  rintro v_4 w_5 ⟨on1_1, lo1_2, hi1_3, rfl, rfl, hbg⟩
  refine k_perm (wX3 E h cd n sc rt on lo hi on1_1 lo1_2 hi1_3 fs lf hf em le gr) [0, 1, 2, 3, 4, 5, 10, 11, 12, 13, 6, 7, 8, 9] (by decide) rfl ?_
  show kK g (wX3 E h cd n sc rt on lo hi on1_1 lo1_2 hi1_3 fs lf hf em le gr) [(0, .ref (h 0))] 0 0 7 []
  refine k_iconst F (pc := 7) ((nI 0)) dX3_settle_7 (by decide) ?_
  refine k_istore_n F (pc := 8) [(1, .int (nI 0)), (0, .ref (h 0))] dX3_settle_8 rfl (by decide) rfl ?_
  have L9 : ∀ (d_ : Nat) (i : Nat) (on2 : Nat → Bool) (lo2 : Nat → Int64) (hi2 : Nat → Int64) (fs2 : Bool) (lf2 : Nat → Int64) (hf2 : Nat → Int64) (em2 : Bool) (le2 : Int64) (gr2 : Int64), n - i < d_ → (i ≤ n) → (Rep on2 lo2 hi2 (setTo cd S i)) → kK g (wX3 E h cd n sc rt on lo hi on2 lo2 hi2 fs2 lf2 hf2 em2 le2 gr2) [(0, .ref (h 0)), (1, .int (nI i))] 0 0 9 [] := by
    intro d_
    induction d_ with
    | zero => intro i on2 lo2 hi2 fs2 lf2 hf2 em2 le2 gr2 hm; exact absurd hm (Nat.not_lt_zero _)
    | succ d_ ih9 =>
      intro i on2 lo2 hi2 fs2 lf2 hf2 em2 le2 gr2 hm9 hin hrp
      refine k_iload_n F (pc := 9) 1 rfl dX3_settle_9 rfl ?_
      refine k_aload_n F (pc := 10) 0 rfl dX3_settle_10 rfl ?_
      refine k_get F (pc := 11) (ref := RX3) (C := RX3) (T := TX3) (N := 8) (ci := 3) 0 1 dX3_settle_11 zin_X3_settle_X3 rfl rfl (by decide) zm_X3_settle_f13 rfl rfl ?_
      refine k_icmp_ge F (pc := 14) 45 dX3_settle_14 (by decide) (nI_toInt (by omega)) (nI_toInt (by omega)) (fun c_6 => ?_) (fun c_6 => ?_)
      · skip
        refine k_vret F Rr (pc := 45) dX3_settle_45 ⟨on2, lo2, hi2, fs2, lf2, hf2, em2, le2, gr2, rfl, rfl, ?_⟩
        rw [show i = n by omega] at hrp
        exact hrp
      · skip
        refine k_aload_n F (pc := 17) 0 rfl dX3_settle_17 rfl ?_
        refine k_get F (pc := 18) (ref := RX3) (C := RX3) (T := TX3) (N := 8) (ci := 3) 0 4 dX3_settle_18 zin_X3_settle_X3 rfl rfl (by decide) zm_X3_settle_f27 rfl rfl ?_
        refine k_iload_n F (pc := 21) 1 rfl dX3_settle_21 rfl ?_
        refine k_callV F (pc := 22) (C := RX2) (T := TX2) (N := 3) (ci := 2) [.int (nI i)] [] 1 (wX2 E (h 2) (h 3) (h 4) (h 5) on lo hi) [cObj (h 0) 3 [.ref (h 1), .int (nI n), .int (bI sc), .int (nI rt), .ref (h 2), .ref (h 6), .ref (h 10), .ref (h 13)], cInt E (h 1) 96 cd, cObj (h 6) 2 [.ref (h 7), .ref (h 8), .ref (h 9)], cBoo E (h 7) 24 on2, cLng E (h 8) 96 lo2, cLng E (h 9) 96 hi2, cObj (h 10) 0 [.int (bI fs2), .ref (h 11), .ref (h 12)], cLng E (h 11) 4 lf2, cLng E (h 12) 4 hf2, cObj (h 13) 1 [.int (bI em2), .long le2, .long gr2]] [2, 3, 4, 5] [0, 1, 6, 7, 8, 9, 10, 11, 12, 13] (m_X2_isSomewhere l E (h 2) (h 3) (h 4) (h 5) on lo hi i (by omega)) dX3_settle_22 gX3_settle_X2_isSomewhere rfl (by decide +kernel) rfl ⟨rfl, rfl⟩ (by decide) rfl (Nat.le_of_ble_eq_true rfl) (by decide) rfl rfl rfl rfl (by decide) (by decide) (by decide) ?_
        rintro v_7 w_8 ⟨rfl, rfl⟩
        refine k_perm (wX3 E h cd n sc rt on lo hi on2 lo2 hi2 fs2 lf2 hf2 em2 le2 gr2) [0, 1, 10, 11, 12, 13, 2, 3, 4, 5, 6, 7, 8, 9] (by decide) rfl ?_
        show kK g (wX3 E h cd n sc rt on lo hi on2 lo2 hi2 fs2 lf2 hf2 em2 le2 gr2) [(0, .ref (h 0)), (1, .int (nI i))] 0 0 25 [.int (bI (on i))]
        refine k_if_eqB F (pc := 25) 39 dX3_settle_25 (by decide) (fun c_9 => ?_) (fun c_9 => ?_)
        · skip
          have hnone := hRS.off (by omega) c_9
          refine k_iinc F (pc := 39) 1 ((nI (i + 1))) [(1, .int (nI (i + 1))), (0, .ref (h 0))] dX3_settle_39 rfl (nI_1 i) (by decide) rfl ?_
          refine k_goto F (pc := 42) 9 dX3_settle_42 (by decide) ?_
          refine k_lv [(0, .ref (h 0)), (1, .int (nI (i + 1)))] [1, 0] rfl ?_
          exact ih9 (i + 1) on2 lo2 hi2 fs2 lf2 hf2 em2 le2 gr2 (by omega) (by omega) (by first | (rw [set_none hnone]; exact hrp) | (rw [set_some hsome]; exact hsf.1))
        · skip
          obtain ⟨X, hsome, hXv⟩ := hRS.up (by omega) c_9
          refine k_aload_n F (pc := 28) 0 rfl dX3_settle_28 rfl ?_
          refine k_iload_n F (pc := 29) 1 rfl dX3_settle_29 rfl ?_
          refine k_aload_n F (pc := 30) 0 rfl dX3_settle_30 rfl ?_
          refine k_get F (pc := 31) (ref := RX3) (C := RX3) (T := TX3) (N := 8) (ci := 3) 0 5 dX3_settle_31 zin_X3_settle_X3 rfl rfl (by decide) zm_X3_settle_f31 rfl rfl ?_
          refine k_iconst F (pc := 34) ((nI 0)) dX3_settle_34 (by decide) ?_
          refine k_callV F (pc := 35) (C := RX3) (T := TX3) (N := 8) (ci := 3) [.int (nI i), .ref (h 6), .int (bI false)] [] 3 (wX3 E h cd n sc rt on lo hi on2 lo2 hi2 fs2 lf2 hf2 em2 le2 gr2) [] [0, 1, 2, 3, 4, 5, 6, 7, 8, 9, 10, 11, 12, 13] [] (m_X3_sendFlows__S l E h cd n sc rt on lo hi on2 lo2 hi2 fs2 lf2 hf2 em2 le2 gr2 i false X (setTo cd S i) (by omega) (by omega) (hok i (by omega)) (hoS _ _ hsome) hrp hXv (fun h => by have := fN_in hn hwh (by omega) h; omega)) dX3_settle_35 gX3_settle_X3_sendFlows rfl (by decide +kernel) rfl ⟨rfl, rfl⟩ (by decide) rfl (Nat.le_of_ble_eq_true rfl) (by decide) rfl rfl rfl rfl (by decide) (by decide) (by decide) ?_
          rintro v_20 w_21 ⟨son1_10, slo1_11, shi1_12, fs1_13, lf1_14, hf1_15, em1_16, le1_17, gr1_18, r_19, rfl, rfl, hsf⟩
          refine k_perm (wX3 E h cd n sc rt on lo hi son1_10 slo1_11 shi1_12 fs1_13 lf1_14 hf1_15 em1_16 le1_17 gr1_18) [0, 1, 2, 3, 4, 5, 6, 7, 8, 9, 10, 11, 12, 13] (by decide) rfl ?_
          show kK g (wX3 E h cd n sc rt on lo hi son1_10 slo1_11 shi1_12 fs1_13 lf1_14 hf1_15 em1_16 le1_17 gr1_18) [(0, .ref (h 0)), (1, .int (nI i))] 0 0 38 [.int (bI r_19)]
          refine k_pop F (pc := 38) dX3_settle_38 rfl ?_
          refine k_iinc F (pc := 39) 1 ((nI (i + 1))) [(1, .int (nI (i + 1))), (0, .ref (h 0))] dX3_settle_39 rfl (nI_1 i) (by decide) rfl ?_
          refine k_goto F (pc := 42) 9 dX3_settle_42 (by decide) ?_
          refine k_lv [(0, .ref (h 0)), (1, .int (nI (i + 1)))] [1, 0] rfl ?_
          exact ih9 (i + 1) son1_10 slo1_11 shi1_12 fs1_13 lf1_14 hf1_15 em1_16 le1_17 gr1_18 (by omega) (by omega) (by first | (rw [set_none hnone]; exact hrp) | (rw [set_some hsome]; exact hsf.1))
  refine k_lv [(0, .ref (h 0)), (1, .int (nI 0))] [1, 0] rfl ?_
  exact L9 (n - 0 + 1) 0 on1_1 lo1_2 hi1_3 fs lf hf em le gr (Nat.lt_succ_self _) (by omega) (by exact hbg)
theorem zm_X3_scan_f27 : (Cond.fieldLink RX3 27 RX3 "found" "LRangeScan$States;" : Cond) ∈ wsX3_scan := by decide +kernel
theorem zin_X3_scan_X3 : ∀ w ∈ u_ws RX3 TX3 8, w ∈ wsX3_scan := by decide +kernel
theorem zm_X3_scan_f17 : (Cond.fieldLink RX3 17 RX3 "scanned" "Z" : Cond) ∈ wsX3_scan := by decide +kernel
theorem zm_X3_scan_f21 : (Cond.fieldLink RX3 21 RX3 "roundsTaken" "I" : Cond) ∈ wsX3_scan := by decide +kernel
set_option maxHeartbeats 4000000 in
set_option maxRecDepth 100000 in
theorem m_X3_scan (l : Launch) (E : kE) (h : Nat → Nat) (cd : Nat → Int32) (n : Nat) (sc : Bool) (rt : Nat) (on : Nat → Bool) (lo : Nat → Int64) (hi : Nat → Int64) (son : Nat → Bool) (slo : Nat → Int64) (shi : Nat → Int64) (fs : Bool) (lf : Nat → Int64) (hf : Nat → Int64) (em : Bool) (le : Int64) (gr : Int64) (K : Nat) (hn : n ≤ 24) (hok : ∀ p, p < n → okP cd p) (hK : wholeP cd n → isK cd n K) (hoK : ∀ j k, k ≤ n → okS (rndTo cd (rndK cd n j) k).2) (hoR : ∀ j, okS (rndK cd n j)) : kC l yX3_scan wsX3_scan ({ frames := 6, cells := 0, slots := 0, locals := 154 } : Room) E [.ref (h 0)] (wX3 E h cd n sc rt on lo hi son slo shi fs lf hf em le gr) 0 0 (fun v_ w_ => ∃ (r : Int32) (sc1 : Bool) (rt1 : Nat) (on1 : Nat → Bool) (lo1 : Nat → Int64) (hi1 : Nat → Int64) (son1 : Nat → Bool) (slo1 : Nat → Int64) (shi1 : Nat → Int64) (fs1 : Bool) (lf1 : Nat → Int64) (hf1 : Nat → Int64) (em1 : Bool) (le1 : Int64) (gr1 : Int64), v_ = some (.int r) ∧ w_ = (wX3 E h cd n sc1 rt1 on1 lo1 hi1 son1 slo1 shi1 fs1 lf1 hf1 em1 le1 gr1) ∧ ((¬ wholeP cd n ∧ r = -1 ∧ sc1 = false ∧ rt1 = 0) ∨ (wholeP cd n ∧ sc1 = true ∧ rt1 = K ∧ Rep son1 slo1 shi1 (setTo cd (rndK cd n K) n) ∧ r = nI (cntV cd true n son1 slo1 shi1 n)))) := by
  refine kC.enter cX3_scan 3 (some .int) [(0, .ref (h 0))] (by decide) rfl (Nat.le_of_ble_eq_true rfl) rfl ?_
  intro g F Rr
  refine k_aload_n F (pc := 0) 0 rfl dX3_scan_0 rfl ?_
  refine k_callV F (pc := 1) (C := RX3) (T := TX3) (N := 8) (ci := 3) [] [] 0 (wX3 E h cd n sc rt on lo hi son slo shi fs lf hf em le gr) [] [0, 1, 2, 3, 4, 5, 6, 7, 8, 9, 10, 11, 12, 13] [] (m_X3_forgetScan l E h cd n sc rt on lo hi son slo shi fs lf hf em le gr) dX3_scan_1 gX3_scan_X3_forgetScan rfl (by decide +kernel) rfl ⟨rfl, rfl⟩ (by decide) rfl (Nat.le_of_ble_eq_true rfl) (by decide) rfl rfl rfl rfl (by decide) (by decide) (by decide) ?_
  rintro v_1 w_2 ⟨rfl, rfl⟩
  refine k_perm (wX3 E h cd n false 0 on lo hi son slo shi fs lf hf em le gr) [0, 1, 2, 3, 4, 5, 6, 7, 8, 9, 10, 11, 12, 13] (by decide) rfl ?_
  show kK g (wX3 E h cd n false 0 on lo hi son slo shi fs lf hf em le gr) [(0, .ref (h 0))] 0 0 4 []
  refine k_aload_n F (pc := 4) 0 rfl dX3_scan_4 rfl ?_
  refine k_callV F (pc := 5) (C := RX3) (T := TX3) (N := 8) (ci := 3) [] [] 0 (wX3 E h cd n false 0 on lo hi son slo shi fs lf hf em le gr) [] [0, 1, 2, 3, 4, 5, 6, 7, 8, 9, 10, 11, 12, 13] [] (m_X3_isWhole l E h cd n false 0 on lo hi son slo shi fs lf hf em le gr (by omega) hok) dX3_scan_5 gX3_scan_X3_isWhole rfl (by decide +kernel) rfl ⟨rfl, rfl⟩ (by decide) rfl (Nat.le_of_ble_eq_true rfl) (by decide) rfl rfl rfl rfl (by decide) (by decide) (by decide) ?_
  rintro v_4 w_5 ⟨r_3, rfl, rfl, hwi⟩
  refine k_perm (wX3 E h cd n false 0 on lo hi son slo shi fs lf hf em le gr) [0, 1, 2, 3, 4, 5, 6, 7, 8, 9, 10, 11, 12, 13] (by decide) rfl ?_
  show kK g (wX3 E h cd n false 0 on lo hi son slo shi fs lf hf em le gr) [(0, .ref (h 0))] 0 0 8 [.int (bI r_3)]
  refine k_if_neB F (pc := 8) 13 dX3_scan_8 (by decide) (fun c_6 => ?_) (fun c_6 => ?_)
  · skip
    have hb_7 := hwi.mp c_6
    have hw1 := hwi.mp c_6
    refine k_aload_n F (pc := 13) 0 rfl dX3_scan_13 rfl ?_
    refine k_get F (pc := 14) (ref := RX3) (C := RX3) (T := TX3) (N := 8) (ci := 3) 0 4 dX3_scan_14 zin_X3_scan_X3 rfl rfl (by decide) zm_X3_scan_f27 rfl rfl ?_
    refine k_callV F (pc := 17) (C := RX2) (T := TX2) (N := 3) (ci := 2) [] [] 0 (wX2 E (h 2) (h 3) (h 4) (h 5) on lo hi) [cObj (h 0) 3 [.ref (h 1), .int (nI n), .int (bI false), .int (nI 0), .ref (h 2), .ref (h 6), .ref (h 10), .ref (h 13)], cInt E (h 1) 96 cd, cObj (h 6) 2 [.ref (h 7), .ref (h 8), .ref (h 9)], cBoo E (h 7) 24 son, cLng E (h 8) 96 slo, cLng E (h 9) 96 shi, cObj (h 10) 0 [.int (bI fs), .ref (h 11), .ref (h 12)], cLng E (h 11) 4 lf, cLng E (h 12) 4 hf, cObj (h 13) 1 [.int (bI em), .long le, .long gr]] [2, 3, 4, 5] [0, 1, 6, 7, 8, 9, 10, 11, 12, 13] (m_X2_begin l E (h 2) (h 3) (h 4) (h 5) on lo hi) dX3_scan_17 gX3_scan_X2_begin rfl (by decide +kernel) rfl ⟨rfl, rfl⟩ (by decide) rfl (Nat.le_of_ble_eq_true rfl) (by decide) rfl rfl rfl rfl (by decide) (by decide) (by decide) ?_
    rintro v_11 w_12 ⟨on1_8, lo1_9, hi1_10, rfl, rfl, hbg⟩
    refine k_perm (wX3 E h cd n false 0 on1_8 lo1_9 hi1_10 son slo shi fs lf hf em le gr) [0, 1, 10, 11, 12, 13, 2, 3, 4, 5, 6, 7, 8, 9] (by decide) rfl ?_
    show kK g (wX3 E h cd n false 0 on1_8 lo1_9 hi1_10 son slo shi fs lf hf em le gr) [(0, .ref (h 0))] 0 0 20 []
    have hKK := hK hw1
    refine k_iconst F (pc := 20) ((nI 1)) dX3_scan_20 (by decide) ?_
    refine k_istore_n F (pc := 21) [(1, .int (nI 1)), (0, .ref (h 0))] dX3_scan_21 rfl (by decide) rfl ?_
    refine k_iconst F (pc := 22) ((nI 1)) dX3_scan_22 (by decide) ?_
    refine k_istore_n F (pc := 23) [(2, .int (nI 1)), (1, .int (nI 1)), (0, .ref (h 0))] dX3_scan_23 rfl (by decide) rfl ?_
    have L24 : ∀ (d_ : Nat) (k : Nat) (ch : Bool) (rt2 : Nat) (on2 : Nat → Bool) (lo2 : Nat → Int64) (hi2 : Nat → Int64) (fs2 : Bool) (lf2 : Nat → Int64) (hf2 : Nat → Int64) (em2 : Bool) (le2 : Int64) (gr2 : Int64), 10001 - k < d_ → (1 ≤ k ∧ k ≤ K + 1) → (Rep on2 lo2 hi2 (rndK cd n (k - 1))) → (ch = true ↔ k ≤ K) → (k = K + 1 → rt2 = K) → kK g (wX3 E h cd n false rt2 on2 lo2 hi2 son slo shi fs2 lf2 hf2 em2 le2 gr2) [(0, .ref (h 0)), (1, .int (bI ch)), (2, .int (nI k))] 0 0 24 [] := by
      intro d_
      induction d_ with
      | zero => intro k ch rt2 on2 lo2 hi2 fs2 lf2 hf2 em2 le2 gr2 hm; exact absurd hm (Nat.not_lt_zero _)
      | succ d_ ih24 =>
        intro k ch rt2 on2 lo2 hi2 fs2 lf2 hf2 em2 le2 gr2 hm24 hk1 hrp hch hrt
        refine k_iload_n F (pc := 24) 1 rfl dX3_scan_24 rfl ?_
        refine k_if_eqB F (pc := 25) 51 dX3_scan_25 (by decide) (fun c_13 => ?_) (fun c_13 => ?_)
        · skip
          have hkK := k_ff hch c_13
          refine k_aload_n F (pc := 51) 0 rfl dX3_scan_51 rfl ?_
          refine k_callV F (pc := 52) (C := RX3) (T := TX3) (N := 8) (ci := 3) [] [] 0 (wX3 E h cd n false rt2 on2 lo2 hi2 son slo shi fs2 lf2 hf2 em2 le2 gr2) [] [0, 1, 2, 3, 4, 5, 6, 7, 8, 9, 10, 11, 12, 13] [] (m_X3_settle l E h cd n false rt2 on2 lo2 hi2 son slo shi fs2 lf2 hf2 em2 le2 gr2 (rndK cd n K) (by omega) hok hw1 (by rw [show K = k - 1 by omega]; exact hrp) (hoR _)) dX3_scan_52 gX3_scan_X3_settle rfl (by decide +kernel) rfl ⟨rfl, rfl⟩ (by decide) rfl (Nat.le_of_ble_eq_true rfl) (by decide) rfl rfl rfl rfl (by decide) (by decide) (by decide) ?_
          rintro v_23 w_24 ⟨son1_14, slo1_15, shi1_16, fs1_17, lf1_18, hf1_19, em1_20, le1_21, gr1_22, rfl, rfl, hse⟩
          refine k_perm (wX3 E h cd n false rt2 on2 lo2 hi2 son1_14 slo1_15 shi1_16 fs1_17 lf1_18 hf1_19 em1_20 le1_21 gr1_22) [0, 1, 2, 3, 4, 5, 6, 7, 8, 9, 10, 11, 12, 13] (by decide) rfl ?_
          show kK g (wX3 E h cd n false rt2 on2 lo2 hi2 son1_14 slo1_15 shi1_16 fs1_17 lf1_18 hf1_19 em1_20 le1_21 gr1_22) [(0, .ref (h 0)), (1, .int (bI ch)), (2, .int (nI k))] 0 0 55 []
          refine k_aload_n F (pc := 55) 0 rfl dX3_scan_55 rfl ?_
          refine k_iconst F (pc := 56) ((nI 1)) dX3_scan_56 (by decide) ?_
          refine k_put F (pc := 57) (ref := RX3) (C := RX3) (T := TX3) (N := 8) (ci := 3) (ty := .boolean) (v := .int (bI true)) tyX3 0 2 (wX3 E h cd n true rt2 on2 lo2 hi2 son1_14 slo1_15 shi1_16 fs1_17 lf1_18 hf1_19 em1_20 le1_21 gr1_22) dX3_scan_57 zin_X3_scan_X3 tyX3_ok nmX3 rfl rfl (by decide) zm_X3_scan_f17 rfl rfl (by decide +kernel) rfl rfl (Nat.le_of_ble_eq_true rfl) rfl ?_
          refine k_aload_n F (pc := 60) 0 rfl dX3_scan_60 rfl ?_
          refine k_callV F (pc := 61) (C := RX3) (T := TX3) (N := 8) (ci := 3) [] [] 0 (wX3 E h cd n true rt2 on2 lo2 hi2 son1_14 slo1_15 shi1_16 fs1_17 lf1_18 hf1_19 em1_20 le1_21 gr1_22) [] [0, 1, 2, 3, 4, 5, 6, 7, 8, 9, 10, 11, 12, 13] [] (m_X3_countAlarms l E h cd n true rt2 on2 lo2 hi2 son1_14 slo1_15 shi1_16 fs1_17 lf1_18 hf1_19 em1_20 le1_21 gr1_22 (by omega) hok) dX3_scan_61 gX3_scan_X3_countAlarms rfl (by decide +kernel) rfl ⟨rfl, rfl⟩ (by decide) rfl (Nat.le_of_ble_eq_true rfl) (by decide) rfl rfl rfl rfl (by decide) (by decide) (by decide) ?_
          rintro v_26 w_27 ⟨r_25, rfl, rfl, hct⟩
          refine k_perm (wX3 E h cd n true rt2 on2 lo2 hi2 son1_14 slo1_15 shi1_16 fs1_17 lf1_18 hf1_19 em1_20 le1_21 gr1_22) [0, 1, 2, 3, 4, 5, 6, 7, 8, 9, 10, 11, 12, 13] (by decide) rfl ?_
          show kK g (wX3 E h cd n true rt2 on2 lo2 hi2 son1_14 slo1_15 shi1_16 fs1_17 lf1_18 hf1_19 em1_20 le1_21 gr1_22) [(0, .ref (h 0)), (1, .int (bI ch)), (2, .int (nI k))] 0 0 64 [.int (nI r_25)]
          refine k_iret F Rr (pc := 64) dX3_scan_64 ⟨(nI r_25), true, rt2, on2, lo2, hi2, son1_14, slo1_15, shi1_16, fs1_17, lf1_18, hf1_19, em1_20, le1_21, gr1_22, rfl, rfl, ?_⟩
          exact Or.inr ⟨hw1, rfl, hrt (by omega), hse, by rw [hct]⟩
        · skip
          have hkK := hch.mp c_13
          have hKm := hKK.2.1
          refine k_iload_n F (pc := 28) 2 rfl dX3_scan_28 rfl ?_
          refine k_sipush F (pc := 29) ((nI 10000)) dX3_scan_29 (by decide) ?_
          refine k_icmp_gt F (pc := 32) 51 dX3_scan_32 (by decide) (nI_toInt (by omega)) (show (nI 10000 : Int32).toInt = 10000 by decide) (fun c_28 => ?_) (fun c_28 => ?_)
          · skip
            exfalso; have := hKK.2.1; omega
          · skip
            refine k_aload_n F (pc := 35) 0 rfl dX3_scan_35 rfl ?_
            refine k_callV F (pc := 36) (C := RX3) (T := TX3) (N := 8) (ci := 3) [] [] 0 (wX3 E h cd n false rt2 on2 lo2 hi2 son slo shi fs2 lf2 hf2 em2 le2 gr2) [] [0, 1, 2, 3, 4, 5, 6, 7, 8, 9, 10, 11, 12, 13] [] (m_X3_runRound l E h cd n false rt2 on2 lo2 hi2 son slo shi fs2 lf2 hf2 em2 le2 gr2 (rndK cd n (k - 1)) (by omega) hok hw1 hrp (hoK _)) dX3_scan_36 gX3_scan_X3_runRound rfl (by decide +kernel) rfl ⟨rfl, rfl⟩ (by decide) rfl (Nat.le_of_ble_eq_true rfl) (by decide) rfl rfl rfl rfl (by decide) (by decide) (by decide) ?_
            rintro v_39 w_40 ⟨on1_29, lo1_30, hi1_31, fs1_32, lf1_33, hf1_34, em1_35, le1_36, gr1_37, r_38, rfl, rfl, hrr⟩
            refine k_perm (wX3 E h cd n false rt2 on1_29 lo1_30 hi1_31 son slo shi fs1_32 lf1_33 hf1_34 em1_35 le1_36 gr1_37) [0, 1, 2, 3, 4, 5, 6, 7, 8, 9, 10, 11, 12, 13] (by decide) rfl ?_
            show kK g (wX3 E h cd n false rt2 on1_29 lo1_30 hi1_31 son slo shi fs1_32 lf1_33 hf1_34 em1_35 le1_36 gr1_37) [(0, .ref (h 0)), (1, .int (bI ch)), (2, .int (nI k))] 0 0 39 [.int (bI r_38)]
            refine k_istore_n F (pc := 39) [(1, .int (bI r_38)), (0, .ref (h 0)), (2, .int (nI k))] dX3_scan_39 rfl (by decide) rfl ?_
            refine k_aload_n F (pc := 40) 1 rfl dX3_scan_40 rfl ?_
            refine k_iload_n F (pc := 41) 2 rfl dX3_scan_41 rfl ?_
            refine k_put F (pc := 42) (ref := RX3) (C := RX3) (T := TX3) (N := 8) (ci := 3) (ty := .int) (v := .int (nI k)) tyX3 0 3 (wX3 E h cd n false k on1_29 lo1_30 hi1_31 son slo shi fs1_32 lf1_33 hf1_34 em1_35 le1_36 gr1_37) dX3_scan_42 zin_X3_scan_X3 tyX3_ok nmX3 rfl rfl (by decide) zm_X3_scan_f21 rfl rfl (by decide +kernel) rfl rfl (Nat.le_of_ble_eq_true rfl) rfl ?_
            refine k_iinc F (pc := 45) 2 ((nI (k + 1))) [(2, .int (nI (k + 1))), (1, .int (bI r_38)), (0, .ref (h 0))] dX3_scan_45 rfl (nI_1 k) (by decide) rfl ?_
            refine k_goto F (pc := 48) 24 dX3_scan_48 (by decide) ?_
            refine k_lv [(0, .ref (h 0)), (1, .int (bI r_38)), (2, .int (nI (k + 1)))] [2, 1, 0] rfl ?_
            exact ih24 (k + 1) r_38 k on1_29 lo1_30 hi1_31 fs1_32 lf1_33 hf1_34 em1_35 le1_36 gr1_37 (by omega) (by omega) (by rw [show k + 1 - 1 = (k - 1) + 1 by omega, rndK]; exact hrr.1) (by exact scan_ch hKK (by omega) (by omega) hrr.2) (by omega)
    refine k_lv [(0, .ref (h 0)), (1, .int (nI 1)), (2, .int (nI 1))] [2, 1, 0] rfl ?_
    exact L24 (10001 - 1 + 1) 1 true 0 on1_8 lo1_9 hi1_10 fs lf hf em le gr (Nat.lt_succ_self _) (by omega) (by exact hbg) (by exact ⟨fun _ => hKK.1, fun _ => rfl⟩) (by intro h; have := hKK.1; omega)
  · skip
    have hb_41 := k_ff hwi c_6
    have hw0 := k_ff hwi c_6
    refine k_iconst F (pc := 11) ((-1)) dX3_scan_11 (by decide) ?_
    refine k_iret F Rr (pc := 12) dX3_scan_12 ⟨(-1), false, 0, on, lo, hi, son, slo, shi, fs, lf, hf, em, le, gr, rfl, rfl, ?_⟩
    exact Or.inl ⟨hw0, rfl, rfl, rfl⟩
