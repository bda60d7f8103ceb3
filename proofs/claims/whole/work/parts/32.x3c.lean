set_option maxHeartbeats 4000000 in
set_option maxRecDepth 100000 in
theorem m_X3_exactResult (l : Launch) (E : kE) (o : Int32) (x : Int64) (y : Int64) (hy : o.toInt = 3 ∨ o.toInt = 4 ∨ o.toInt = 5 ∨ ¬ y = 0) : kC l yX3_exactResult wsX3_exactResult ({ frames := 0, cells := 0, slots := 0, locals := 0 } : Room) E [.int o, .long x, .long y] [] 0 0 (fun v_ w_ => w_ = [] ∧ v_ = some (.long (ex o.toInt x y))) := by
  refine kC.enter cX3_exactResult 5 (some .long) [(0, .int o), (1, .long x), (3, .long y)] (by decide) rfl (Nat.le_of_ble_eq_true rfl) rfl ?_
  intro g F Rr
  refine k_iload_n F (pc := 0) 0 rfl dX3_exactResult_0 rfl ?_
  by_cases c_1 : o.toInt = 3
  · skip
    refine k_tabIn F (pc := 1) 3 28 dX3_exactResult_1 c_1 (by decide) (by decide) rfl (by decide) ?_
    refine k_lload_n F (pc := 28) 1 rfl dX3_exactResult_28 rfl ?_
    refine k_lload_n F (pc := 29) 2 rfl dX3_exactResult_29 rfl ?_
    refine k_ladd F (pc := 30) dX3_exactResult_30 ?_
    exact k_lret F Rr (pc := 31) dX3_exactResult_31 ⟨rfl, (by rw [ex, if_pos (by assumption)])⟩
  by_cases c_2 : o.toInt = 4
  · skip
    refine k_tabIn F (pc := 1) 4 32 dX3_exactResult_1 c_2 (by decide) (by decide) rfl (by decide) ?_
    refine k_lload_n F (pc := 32) 1 rfl dX3_exactResult_32 rfl ?_
    refine k_lload_n F (pc := 33) 2 rfl dX3_exactResult_33 rfl ?_
    refine k_lsub F (pc := 34) dX3_exactResult_34 ?_
    exact k_lret F Rr (pc := 35) dX3_exactResult_35 ⟨rfl, (by rw [ex, if_neg (by omega), if_pos (by assumption)])⟩
  by_cases c_3 : o.toInt = 5
  · skip
    refine k_tabIn F (pc := 1) 5 36 dX3_exactResult_1 c_3 (by decide) (by decide) rfl (by decide) ?_
    refine k_lload_n F (pc := 36) 1 rfl dX3_exactResult_36 rfl ?_
    refine k_lload_n F (pc := 37) 2 rfl dX3_exactResult_37 rfl ?_
    refine k_lmul F (pc := 38) dX3_exactResult_38 ?_
    exact k_lret F Rr (pc := 39) dX3_exactResult_39 ⟨rfl, (by rw [ex, if_neg (by omega), if_neg (by omega), if_pos (by assumption)])⟩
  refine k_tabOut F (pc := 1) 40 dX3_exactResult_1 (by omega) (by decide) ?_
  refine k_lload_n F (pc := 40) 2 rfl dX3_exactResult_40 rfl ?_
  refine k_lconst F (pc := 41) 0 dX3_exactResult_41 (by decide) ?_
  refine k_lcmp_ne F (pc := 42) 50 dX3_exactResult_42 dX3_exactResult_43 (by decide) (fun c_4 => ?_) (fun c_4 => ?_)
  · skip
    refine k_lload_n F (pc := 50) 1 rfl dX3_exactResult_50 rfl ?_
    refine k_lload_n F (pc := 51) 2 rfl dX3_exactResult_51 rfl ?_
    refine k_ldiv F (pc := 52) dX3_exactResult_52 (by assumption) ?_
    exact k_lret F Rr (pc := 53) dX3_exactResult_53 ⟨rfl, (by first | (rw [ex, if_neg (by omega), if_neg (by omega), if_neg (by omega)]; done) | (exfalso; rcases hy with h | h | h | h; omega; omega; omega; exact h (by assumption)))⟩
  · skip
    refine k_lconst F (pc := 46) 0 dX3_exactResult_46 (by decide) ?_
    refine k_goto F (pc := 47) 53 dX3_exactResult_47 (by decide) ?_
    exact k_lret F Rr (pc := 53) dX3_exactResult_53 ⟨rfl, (by first | (rw [ex, if_neg (by omega), if_neg (by omega), if_neg (by omega)]; done) | (exfalso; rcases hy with h | h | h | h; omega; omega; omega; exact h (by assumption)))⟩
theorem zm_X3_takeEnds_f37 : (Cond.fieldLink RX3 37 RX3 "flow" "LRangeScan$Flow;" : Cond) ∈ wsX3_takeEnds := by decide +kernel
theorem zin_X3_takeEnds_X3 : ∀ w ∈ u_ws RX3 TX3 8, w ∈ wsX3_takeEnds := by decide +kernel
theorem zm_X3_takeEnds_f44 : (Cond.fieldLink RX3 44 RX3 "results" "LRangeScan$Results;" : Cond) ∈ wsX3_takeEnds := by decide +kernel
set_option maxHeartbeats 4000000 in
set_option maxRecDepth 100000 in
theorem m_X3_takeEnds (l : Launch) (E : kE) (h : Nat → Nat) (cd : Nat → Int32) (n : Nat) (sc : Bool) (rt : Nat) (on : Nat → Bool) (lo : Nat → Int64) (hi : Nat → Int64) (son : Nat → Bool) (slo : Nat → Int64) (shi : Nat → Int64) (fs : Bool) (lf : Nat → Int64) (hf : Nat → Int64) (em : Bool) (le : Int64) (gr : Int64) (o : Int32) (b : Nat) (f : Int64) (t : Int64) (rs : RS) (hb : b < 4) (hrr : RRep em le gr rs) (hy : t < f ∨ o.toInt = 3 ∨ o.toInt = 4 ∨ o.toInt = 5 ∨ (¬ f = 0 ∧ ¬ t = 0)) : kC l yX3_takeEnds wsX3_takeEnds ({ frames := 1, cells := 0, slots := 0, locals := 24 } : Room) E [.ref (h 0), .int o, .int (nI b), .long f, .long t] (wX3 E h cd n sc rt on lo hi son slo shi fs lf hf em le gr) 0 0 (fun v_ w_ => ∃ (em1 : Bool) (le1 : Int64) (gr1 : Int64), v_ = none ∧ w_ = (wX3 E h cd n sc rt on lo hi son slo shi fs lf hf em1 le1 gr1) ∧ (RRep em1 le1 gr1 (if t < f then rs else tk4 o.toInt (lf b) (hf b) f t rs))) := by
  refine kC.enter cX3_takeEnds 11 none [(0, .ref (h 0)), (1, .int o), (2, .int (nI b)), (3, .long f), (5, .long t)] (by decide) rfl (Nat.le_of_ble_eq_true rfl) rfl ?_
  intro g F Rr
  refine k_lload_n F (pc := 0) 3 rfl dX3_takeEnds_0 rfl ?_
  refine k_lload F (pc := 1) 4 rfl dX3_takeEnds_1 ?_
  refine k_lcmp_le F (pc := 3) 8 dX3_takeEnds_3 dX3_takeEnds_4 (by decide) (fun c_1 => ?_) (fun c_1 => ?_)
  · skip
    refine k_aload_n F (pc := 8) 0 rfl dX3_takeEnds_8 rfl ?_
    refine k_get F (pc := 9) (ref := RX3) (C := RX3) (T := TX3) (N := 8) (ci := 3) 0 6 dX3_takeEnds_9 zin_X3_takeEnds_X3 rfl rfl (by decide) zm_X3_takeEnds_f37 rfl rfl ?_
    refine k_iload_n F (pc := 12) 2 rfl dX3_takeEnds_12 rfl ?_
    refine k_callV F (pc := 13) (C := RX0) (T := TX0) (N := 3) (ci := 0) [.int (nI b)] [] 1 (wX0 E (h 10) (h 11) (h 12) fs lf hf) [cObj (h 0) 3 [.ref (h 1), .int (nI n), .int (bI sc), .int (nI rt), .ref (h 2), .ref (h 6), .ref (h 10), .ref (h 13)], cInt E (h 1) 96 cd, cObj (h 2) 2 [.ref (h 3), .ref (h 4), .ref (h 5)], cBoo E (h 3) 24 on, cLng E (h 4) 96 lo, cLng E (h 5) 96 hi, cObj (h 6) 2 [.ref (h 7), .ref (h 8), .ref (h 9)], cBoo E (h 7) 24 son, cLng E (h 8) 96 slo, cLng E (h 9) 96 shi, cObj (h 13) 1 [.int (bI em), .long le, .long gr]] [10, 11, 12] [0, 1, 2, 3, 4, 5, 6, 7, 8, 9, 13] (m_X0_lowOf l E (h 10) (h 11) (h 12) fs lf hf b (by omega)) dX3_takeEnds_13 gX3_takeEnds_X0_lowOf rfl (by decide +kernel) rfl ⟨rfl, rfl⟩ (by decide) rfl (Nat.le_of_ble_eq_true rfl) (by decide) rfl rfl rfl rfl (by decide) (by decide) (by decide) ?_
    rintro v_2 w_3 ⟨rfl, rfl⟩
    refine k_perm (wX3 E h cd n sc rt on lo hi son slo shi fs lf hf em le gr) [0, 1, 2, 3, 4, 5, 6, 7, 8, 9, 11, 12, 13, 10] (by decide) rfl ?_
    show kK g (wX3 E h cd n sc rt on lo hi son slo shi fs lf hf em le gr) [(0, .ref (h 0)), (1, .int o), (2, .int (nI b)), (3, .long f), (5, .long t)] 0 0 16 [.long (lf b)]
    refine k_lstore F (pc := 16) [(7, .long (lf b)), (0, .ref (h 0)), (1, .int o), (2, .int (nI b)), (3, .long f), (5, .long t)] dX3_takeEnds_16 (by decide) rfl ?_
    refine k_aload_n F (pc := 18) 1 rfl dX3_takeEnds_18 rfl ?_
    refine k_get F (pc := 19) (ref := RX3) (C := RX3) (T := TX3) (N := 8) (ci := 3) 0 6 dX3_takeEnds_19 zin_X3_takeEnds_X3 rfl rfl (by decide) zm_X3_takeEnds_f37 rfl rfl ?_
    refine k_iload_n F (pc := 22) 3 rfl dX3_takeEnds_22 rfl ?_
    refine k_callV F (pc := 23) (C := RX0) (T := TX0) (N := 3) (ci := 0) [.int (nI b)] [] 1 (wX0 E (h 10) (h 11) (h 12) fs lf hf) [cObj (h 0) 3 [.ref (h 1), .int (nI n), .int (bI sc), .int (nI rt), .ref (h 2), .ref (h 6), .ref (h 10), .ref (h 13)], cInt E (h 1) 96 cd, cObj (h 2) 2 [.ref (h 3), .ref (h 4), .ref (h 5)], cBoo E (h 3) 24 on, cLng E (h 4) 96 lo, cLng E (h 5) 96 hi, cObj (h 6) 2 [.ref (h 7), .ref (h 8), .ref (h 9)], cBoo E (h 7) 24 son, cLng E (h 8) 96 slo, cLng E (h 9) 96 shi, cObj (h 13) 1 [.int (bI em), .long le, .long gr]] [10, 11, 12] [0, 1, 2, 3, 4, 5, 6, 7, 8, 9, 13] (m_X0_highOf l E (h 10) (h 11) (h 12) fs lf hf b (by omega)) dX3_takeEnds_23 gX3_takeEnds_X0_highOf rfl (by decide +kernel) rfl ⟨rfl, rfl⟩ (by decide) rfl (Nat.le_of_ble_eq_true rfl) (by decide) rfl rfl rfl rfl (by decide) (by decide) (by decide) ?_
    rintro v_4 w_5 ⟨rfl, rfl⟩
    refine k_perm (wX3 E h cd n sc rt on lo hi son slo shi fs lf hf em le gr) [0, 1, 2, 3, 4, 5, 6, 7, 8, 9, 11, 12, 13, 10] (by decide) rfl ?_
    show kK g (wX3 E h cd n sc rt on lo hi son slo shi fs lf hf em le gr) [(7, .long (lf b)), (0, .ref (h 0)), (1, .int o), (2, .int (nI b)), (3, .long f), (5, .long t)] 0 0 26 [.long (hf b)]
    refine k_lstore F (pc := 26) [(9, .long (hf b)), (7, .long (lf b)), (0, .ref (h 0)), (1, .int o), (2, .int (nI b)), (3, .long f), (5, .long t)] dX3_takeEnds_26 (by decide) rfl ?_
    refine k_aload_n F (pc := 28) 2 rfl dX3_takeEnds_28 rfl ?_
    refine k_get F (pc := 29) (ref := RX3) (C := RX3) (T := TX3) (N := 8) (ci := 3) 0 7 dX3_takeEnds_29 zin_X3_takeEnds_X3 rfl rfl (by decide) zm_X3_takeEnds_f44 rfl rfl ?_
    refine k_iload_n F (pc := 32) 3 rfl dX3_takeEnds_32 rfl ?_
    refine k_lload F (pc := 33) 1 rfl dX3_takeEnds_33 ?_
    refine k_lload_n F (pc := 35) 5 rfl dX3_takeEnds_35 rfl ?_
    refine k_callS F (pc := 36) [.int o, .long (lf b), .long f] [.ref (h 13)] 3 (m_X3_exactResult l E o (lf b) f (exr_f hy (by assumption))) dX3_takeEnds_36 gX3_takeEnds_X3_exactResult rfl (by decide +kernel) rfl ⟨rfl, rfl⟩ (by decide) rfl (Nat.le_of_ble_eq_true rfl) (by decide) ?_
    rintro v_6 rfl
    show kK g (wX3 E h cd n sc rt on lo hi son slo shi fs lf hf em le gr) [(9, .long (hf b)), (7, .long (lf b)), (0, .ref (h 0)), (1, .int o), (2, .int (nI b)), (3, .long f), (5, .long t)] 0 0 39 [.long (ex o.toInt (lf b) f), .ref (h 13)]
    refine k_callV F (pc := 39) (C := RX1) (T := TX1) (N := 3) (ci := 1) [.long (ex o.toInt (lf b) f)] [] 1 (wX1 E (h 13) em le gr) [cObj (h 0) 3 [.ref (h 1), .int (nI n), .int (bI sc), .int (nI rt), .ref (h 2), .ref (h 6), .ref (h 10), .ref (h 13)], cInt E (h 1) 96 cd, cObj (h 2) 2 [.ref (h 3), .ref (h 4), .ref (h 5)], cBoo E (h 3) 24 on, cLng E (h 4) 96 lo, cLng E (h 5) 96 hi, cObj (h 6) 2 [.ref (h 7), .ref (h 8), .ref (h 9)], cBoo E (h 7) 24 son, cLng E (h 8) 96 slo, cLng E (h 9) 96 shi, cObj (h 10) 0 [.int (bI fs), .ref (h 11), .ref (h 12)], cLng E (h 11) 4 lf, cLng E (h 12) 4 hf] [13] [0, 1, 2, 3, 4, 5, 6, 7, 8, 9, 10, 11, 12] (m_X1_take l E (h 13) em le gr (ex o.toInt (lf b) f)) dX3_takeEnds_39 gX3_takeEnds_X1_take rfl (by decide +kernel) rfl ⟨rfl, rfl⟩ (by decide) rfl (Nat.le_of_ble_eq_true rfl) (by decide) rfl rfl rfl rfl (by decide) (by decide) (by decide) ?_
    rintro v_10 w_11 ⟨le1_8, gr1_9, rfl, rfl, ht1⟩
    refine k_perm (wX3 E h cd n sc rt on lo hi son slo shi fs lf hf false le1_8 gr1_9) [0, 1, 2, 3, 4, 5, 6, 7, 8, 9, 10, 11, 12, 13] (by decide) rfl ?_
    show kK g (wX3 E h cd n sc rt on lo hi son slo shi fs lf hf false le1_8 gr1_9) [(9, .long (hf b)), (7, .long (lf b)), (0, .ref (h 0)), (1, .int o), (2, .int (nI b)), (3, .long f), (5, .long t)] 0 0 42 []
    refine k_aload_n F (pc := 42) 2 rfl dX3_takeEnds_42 rfl ?_
    refine k_get F (pc := 43) (ref := RX3) (C := RX3) (T := TX3) (N := 8) (ci := 3) 0 7 dX3_takeEnds_43 zin_X3_takeEnds_X3 rfl rfl (by decide) zm_X3_takeEnds_f44 rfl rfl ?_
    refine k_iload_n F (pc := 46) 3 rfl dX3_takeEnds_46 rfl ?_
    refine k_lload F (pc := 47) 1 rfl dX3_takeEnds_47 ?_
    refine k_lload F (pc := 49) 6 rfl dX3_takeEnds_49 ?_
    refine k_callS F (pc := 51) [.int o, .long (lf b), .long t] [.ref (h 13)] 3 (m_X3_exactResult l E o (lf b) t (exr_t hy (by assumption))) dX3_takeEnds_51 gX3_takeEnds_X3_exactResult rfl (by decide +kernel) rfl ⟨rfl, rfl⟩ (by decide) rfl (Nat.le_of_ble_eq_true rfl) (by decide) ?_
    rintro v_12 rfl
    show kK g (wX3 E h cd n sc rt on lo hi son slo shi fs lf hf false le1_8 gr1_9) [(9, .long (hf b)), (7, .long (lf b)), (0, .ref (h 0)), (1, .int o), (2, .int (nI b)), (3, .long f), (5, .long t)] 0 0 54 [.long (ex o.toInt (lf b) t), .ref (h 13)]
    refine k_callV F (pc := 54) (C := RX1) (T := TX1) (N := 3) (ci := 1) [.long (ex o.toInt (lf b) t)] [] 1 (wX1 E (h 13) false le1_8 gr1_9) [cObj (h 0) 3 [.ref (h 1), .int (nI n), .int (bI sc), .int (nI rt), .ref (h 2), .ref (h 6), .ref (h 10), .ref (h 13)], cInt E (h 1) 96 cd, cObj (h 2) 2 [.ref (h 3), .ref (h 4), .ref (h 5)], cBoo E (h 3) 24 on, cLng E (h 4) 96 lo, cLng E (h 5) 96 hi, cObj (h 6) 2 [.ref (h 7), .ref (h 8), .ref (h 9)], cBoo E (h 7) 24 son, cLng E (h 8) 96 slo, cLng E (h 9) 96 shi, cObj (h 10) 0 [.int (bI fs), .ref (h 11), .ref (h 12)], cLng E (h 11) 4 lf, cLng E (h 12) 4 hf] [13] [0, 1, 2, 3, 4, 5, 6, 7, 8, 9, 10, 11, 12] (m_X1_take l E (h 13) false le1_8 gr1_9 (ex o.toInt (lf b) t)) dX3_takeEnds_54 gX3_takeEnds_X1_take rfl (by decide +kernel) rfl ⟨rfl, rfl⟩ (by decide) rfl (Nat.le_of_ble_eq_true rfl) (by decide) rfl rfl rfl rfl (by decide) (by decide) (by decide) ?_
    rintro v_16 w_17 ⟨le1_14, gr1_15, rfl, rfl, ht2⟩
    refine k_perm (wX3 E h cd n sc rt on lo hi son slo shi fs lf hf false le1_14 gr1_15) [0, 1, 2, 3, 4, 5, 6, 7, 8, 9, 10, 11, 12, 13] (by decide) rfl ?_
    show kK g (wX3 E h cd n sc rt on lo hi son slo shi fs lf hf false le1_14 gr1_15) [(9, .long (hf b)), (7, .long (lf b)), (0, .ref (h 0)), (1, .int o), (2, .int (nI b)), (3, .long f), (5, .long t)] 0 0 57 []
    refine k_aload_n F (pc := 57) 2 rfl dX3_takeEnds_57 rfl ?_
    refine k_get F (pc := 58) (ref := RX3) (C := RX3) (T := TX3) (N := 8) (ci := 3) 0 7 dX3_takeEnds_58 zin_X3_takeEnds_X3 rfl rfl (by decide) zm_X3_takeEnds_f44 rfl rfl ?_
    refine k_iload_n F (pc := 61) 3 rfl dX3_takeEnds_61 rfl ?_
    refine k_lload F (pc := 62) 0 rfl dX3_takeEnds_62 ?_
    refine k_lload_n F (pc := 64) 5 rfl dX3_takeEnds_64 rfl ?_
    refine k_callS F (pc := 65) [.int o, .long (hf b), .long f] [.ref (h 13)] 3 (m_X3_exactResult l E o (hf b) f (exr_f hy (by assumption))) dX3_takeEnds_65 gX3_takeEnds_X3_exactResult rfl (by decide +kernel) rfl ⟨rfl, rfl⟩ (by decide) rfl (Nat.le_of_ble_eq_true rfl) (by decide) ?_
    rintro v_18 rfl
    show kK g (wX3 E h cd n sc rt on lo hi son slo shi fs lf hf false le1_14 gr1_15) [(9, .long (hf b)), (7, .long (lf b)), (0, .ref (h 0)), (1, .int o), (2, .int (nI b)), (3, .long f), (5, .long t)] 0 0 68 [.long (ex o.toInt (hf b) f), .ref (h 13)]
    refine k_callV F (pc := 68) (C := RX1) (T := TX1) (N := 3) (ci := 1) [.long (ex o.toInt (hf b) f)] [] 1 (wX1 E (h 13) false le1_14 gr1_15) [cObj (h 0) 3 [.ref (h 1), .int (nI n), .int (bI sc), .int (nI rt), .ref (h 2), .ref (h 6), .ref (h 10), .ref (h 13)], cInt E (h 1) 96 cd, cObj (h 2) 2 [.ref (h 3), .ref (h 4), .ref (h 5)], cBoo E (h 3) 24 on, cLng E (h 4) 96 lo, cLng E (h 5) 96 hi, cObj (h 6) 2 [.ref (h 7), .ref (h 8), .ref (h 9)], cBoo E (h 7) 24 son, cLng E (h 8) 96 slo, cLng E (h 9) 96 shi, cObj (h 10) 0 [.int (bI fs), .ref (h 11), .ref (h 12)], cLng E (h 11) 4 lf, cLng E (h 12) 4 hf] [13] [0, 1, 2, 3, 4, 5, 6, 7, 8, 9, 10, 11, 12] (m_X1_take l E (h 13) false le1_14 gr1_15 (ex o.toInt (hf b) f)) dX3_takeEnds_68 gX3_takeEnds_X1_take rfl (by decide +kernel) rfl ⟨rfl, rfl⟩ (by decide) rfl (Nat.le_of_ble_eq_true rfl) (by decide) rfl rfl rfl rfl (by decide) (by decide) (by decide) ?_
    rintro v_22 w_23 ⟨le1_20, gr1_21, rfl, rfl, ht3⟩
    refine k_perm (wX3 E h cd n sc rt on lo hi son slo shi fs lf hf false le1_20 gr1_21) [0, 1, 2, 3, 4, 5, 6, 7, 8, 9, 10, 11, 12, 13] (by decide) rfl ?_
    show kK g (wX3 E h cd n sc rt on lo hi son slo shi fs lf hf false le1_20 gr1_21) [(9, .long (hf b)), (7, .long (lf b)), (0, .ref (h 0)), (1, .int o), (2, .int (nI b)), (3, .long f), (5, .long t)] 0 0 71 []
    refine k_aload_n F (pc := 71) 2 rfl dX3_takeEnds_71 rfl ?_
    refine k_get F (pc := 72) (ref := RX3) (C := RX3) (T := TX3) (N := 8) (ci := 3) 0 7 dX3_takeEnds_72 zin_X3_takeEnds_X3 rfl rfl (by decide) zm_X3_takeEnds_f44 rfl rfl ?_
    refine k_iload_n F (pc := 75) 3 rfl dX3_takeEnds_75 rfl ?_
    refine k_lload F (pc := 76) 0 rfl dX3_takeEnds_76 ?_
    refine k_lload F (pc := 78) 6 rfl dX3_takeEnds_78 ?_
    refine k_callS F (pc := 80) [.int o, .long (hf b), .long t] [.ref (h 13)] 3 (m_X3_exactResult l E o (hf b) t (exr_t hy (by assumption))) dX3_takeEnds_80 gX3_takeEnds_X3_exactResult rfl (by decide +kernel) rfl ⟨rfl, rfl⟩ (by decide) rfl (Nat.le_of_ble_eq_true rfl) (by decide) ?_
    rintro v_24 rfl
    show kK g (wX3 E h cd n sc rt on lo hi son slo shi fs lf hf false le1_20 gr1_21) [(9, .long (hf b)), (7, .long (lf b)), (0, .ref (h 0)), (1, .int o), (2, .int (nI b)), (3, .long f), (5, .long t)] 0 0 83 [.long (ex o.toInt (hf b) t), .ref (h 13)]
    refine k_callV F (pc := 83) (C := RX1) (T := TX1) (N := 3) (ci := 1) [.long (ex o.toInt (hf b) t)] [] 1 (wX1 E (h 13) false le1_20 gr1_21) [cObj (h 0) 3 [.ref (h 1), .int (nI n), .int (bI sc), .int (nI rt), .ref (h 2), .ref (h 6), .ref (h 10), .ref (h 13)], cInt E (h 1) 96 cd, cObj (h 2) 2 [.ref (h 3), .ref (h 4), .ref (h 5)], cBoo E (h 3) 24 on, cLng E (h 4) 96 lo, cLng E (h 5) 96 hi, cObj (h 6) 2 [.ref (h 7), .ref (h 8), .ref (h 9)], cBoo E (h 7) 24 son, cLng E (h 8) 96 slo, cLng E (h 9) 96 shi, cObj (h 10) 0 [.int (bI fs), .ref (h 11), .ref (h 12)], cLng E (h 11) 4 lf, cLng E (h 12) 4 hf] [13] [0, 1, 2, 3, 4, 5, 6, 7, 8, 9, 10, 11, 12] (m_X1_take l E (h 13) false le1_20 gr1_21 (ex o.toInt (hf b) t)) dX3_takeEnds_83 gX3_takeEnds_X1_take rfl (by decide +kernel) rfl ⟨rfl, rfl⟩ (by decide) rfl (Nat.le_of_ble_eq_true rfl) (by decide) rfl rfl rfl rfl (by decide) (by decide) (by decide) ?_
    rintro v_28 w_29 ⟨le1_26, gr1_27, rfl, rfl, ht4⟩
    refine k_perm (wX3 E h cd n sc rt on lo hi son slo shi fs lf hf false le1_26 gr1_27) [0, 1, 2, 3, 4, 5, 6, 7, 8, 9, 10, 11, 12, 13] (by decide) rfl ?_
    show kK g (wX3 E h cd n sc rt on lo hi son slo shi fs lf hf false le1_26 gr1_27) [(9, .long (hf b)), (7, .long (lf b)), (0, .ref (h 0)), (1, .int o), (2, .int (nI b)), (3, .long f), (5, .long t)] 0 0 86 []
    refine k_vret F Rr (pc := 86) dX3_takeEnds_86 ⟨false, le1_26, gr1_27, rfl, rfl, ?_⟩
    rw [if_neg (by assumption)]; exact ht4 _ (ht3 _ (ht2 _ (ht1 _ hrr)))
  · skip
    refine k_vret F Rr (pc := 7) dX3_takeEnds_7 ⟨em, le, gr, rfl, rfl, ?_⟩
    rw [if_pos (by assumption)]; exact hrr
theorem zm_X3_calculate_f37 : (Cond.fieldLink RX3 37 RX3 "flow" "LRangeScan$Flow;" : Cond) ∈ wsX3_calculate := by decide +kernel
theorem zin_X3_calculate_X3 : ∀ w ∈ u_ws RX3 TX3 8, w ∈ wsX3_calculate := by decide +kernel
theorem zm_X3_calculate_f44 : (Cond.fieldLink RX3 44 RX3 "results" "LRangeScan$Results;" : Cond) ∈ wsX3_calculate := by decide +kernel
theorem zm_X3_calculate_c166 : (Cond.constantLong RX3 166 (-1) : Cond) ∈ wsX3_calculate := by decide +kernel
theorem zm_X3_calculate_min168a : (Cond.methodLink RX3 168 Lib.MathLoose.min_long.x : Cond) ∈ wsX3_calculate := by decide +kernel
theorem zm_X3_calculate_minb : (Cond.static Lib.MathLoose.min_long.x : Cond) ∈ wsX3_calculate := by decide +kernel
theorem zm_X3_calculate_mathc : (Cond.initialized "java/lang/Math" : Cond) ∈ wsX3_calculate := by decide +kernel
theorem zm_X3_calculate_mind : (Cond.code Lib.MathLoose.min_long.x Lib.MathLoose.min_long.code 4 (some .long) : Cond) ∈ wsX3_calculate := by decide +kernel
theorem zm_X3_calculate_max178a : (Cond.methodLink RX3 178 Lib.MathLoose.max_long.x : Cond) ∈ wsX3_calculate := by decide +kernel
theorem zm_X3_calculate_maxb : (Cond.static Lib.MathLoose.max_long.x : Cond) ∈ wsX3_calculate := by decide +kernel
theorem zm_X3_calculate_maxd : (Cond.code Lib.MathLoose.max_long.x Lib.MathLoose.max_long.code 4 (some .long) : Cond) ∈ wsX3_calculate := by decide +kernel
set_option maxHeartbeats 4000000 in
set_option maxRecDepth 100000 in
theorem m_X3_calculate (l : Launch) (E : kE) (h : Nat → Nat) (cd : Nat → Int32) (n : Nat) (sc : Bool) (rt : Nat) (on : Nat → Bool) (lo : Nat → Int64) (hi : Nat → Int64) (son : Nat → Bool) (slo : Nat → Int64) (shi : Nat → Int64) (fs : Bool) (lf : Nat → Int64) (hf : Nat → Int64) (em : Bool) (le : Int64) (gr : Int64) (o : Int32) (b : Nat) (c : Nat) (hb : b < 4) (hc : c < 4) (ho : 3 ≤ o.toInt ∧ o.toInt ≤ 6) (hle : (lf c).toInt ≤ (hf c).toInt) : kC l yX3_calculate wsX3_calculate ({ frames := 2, cells := 0, slots := 0, locals := 54 } : Room) E [.ref (h 0), .int o, .int (nI b), .int (nI c)] (wX3 E h cd n sc rt on lo hi son slo shi fs lf hf em le gr) 0 0 (fun v_ w_ => ∃ (em1 : Bool) (le1 : Int64) (gr1 : Int64), v_ = none ∧ w_ = (wX3 E h cd n sc rt on lo hi son slo shi fs lf hf em1 le1 gr1) ∧ (RRep em1 le1 gr1 (calcR o.toInt (lf b) (hf b) (lf c) (hf c)))) := by
  refine kC.enter cX3_calculate 8 none [(0, .ref (h 0)), (1, .int o), (2, .int (nI b)), (3, .int (nI c))] (by decide) rfl (Nat.le_of_ble_eq_true rfl) rfl ?_
  intro g F Rr
  refine k_aload_n F (pc := 0) 0 rfl dX3_calculate_0 rfl ?_
  refine k_get F (pc := 1) (ref := RX3) (C := RX3) (T := TX3) (N := 8) (ci := 3) 0 6 dX3_calculate_1 zin_X3_calculate_X3 rfl rfl (by decide) zm_X3_calculate_f37 rfl rfl ?_
  refine k_iload_n F (pc := 4) 3 rfl dX3_calculate_4 rfl ?_
  refine k_callV F (pc := 5) (C := RX0) (T := TX0) (N := 3) (ci := 0) [.int (nI c)] [] 1 (wX0 E (h 10) (h 11) (h 12) fs lf hf) [cObj (h 0) 3 [.ref (h 1), .int (nI n), .int (bI sc), .int (nI rt), .ref (h 2), .ref (h 6), .ref (h 10), .ref (h 13)], cInt E (h 1) 96 cd, cObj (h 2) 2 [.ref (h 3), .ref (h 4), .ref (h 5)], cBoo E (h 3) 24 on, cLng E (h 4) 96 lo, cLng E (h 5) 96 hi, cObj (h 6) 2 [.ref (h 7), .ref (h 8), .ref (h 9)], cBoo E (h 7) 24 son, cLng E (h 8) 96 slo, cLng E (h 9) 96 shi, cObj (h 13) 1 [.int (bI em), .long le, .long gr]] [10, 11, 12] [0, 1, 2, 3, 4, 5, 6, 7, 8, 9, 13] (m_X0_lowOf l E (h 10) (h 11) (h 12) fs lf hf c (by omega)) dX3_calculate_5 gX3_calculate_X0_lowOf rfl (by decide +kernel) rfl ⟨rfl, rfl⟩ (by decide) rfl (Nat.le_of_ble_eq_true rfl) (by decide) rfl rfl rfl rfl (by decide) (by decide) (by decide) ?_
  rintro v_1 w_2 ⟨rfl, rfl⟩
  refine k_perm (wX3 E h cd n sc rt on lo hi son slo shi fs lf hf em le gr) [0, 1, 2, 3, 4, 5, 6, 7, 8, 9, 11, 12, 13, 10] (by decide) rfl ?_
  show kK g (wX3 E h cd n sc rt on lo hi son slo shi fs lf hf em le gr) [(0, .ref (h 0)), (1, .int o), (2, .int (nI b)), (3, .int (nI c))] 0 0 8 [.long (lf c)]
  refine k_lstore F (pc := 8) [(4, .long (lf c)), (0, .ref (h 0)), (1, .int o), (2, .int (nI b)), (3, .int (nI c))] dX3_calculate_8 (by decide) rfl ?_
  refine k_aload_n F (pc := 10) 1 rfl dX3_calculate_10 rfl ?_
  refine k_get F (pc := 11) (ref := RX3) (C := RX3) (T := TX3) (N := 8) (ci := 3) 0 6 dX3_calculate_11 zin_X3_calculate_X3 rfl rfl (by decide) zm_X3_calculate_f37 rfl rfl ?_
  refine k_iload_n F (pc := 14) 4 rfl dX3_calculate_14 rfl ?_
  refine k_callV F (pc := 15) (C := RX0) (T := TX0) (N := 3) (ci := 0) [.int (nI c)] [] 1 (wX0 E (h 10) (h 11) (h 12) fs lf hf) [cObj (h 0) 3 [.ref (h 1), .int (nI n), .int (bI sc), .int (nI rt), .ref (h 2), .ref (h 6), .ref (h 10), .ref (h 13)], cInt E (h 1) 96 cd, cObj (h 2) 2 [.ref (h 3), .ref (h 4), .ref (h 5)], cBoo E (h 3) 24 on, cLng E (h 4) 96 lo, cLng E (h 5) 96 hi, cObj (h 6) 2 [.ref (h 7), .ref (h 8), .ref (h 9)], cBoo E (h 7) 24 son, cLng E (h 8) 96 slo, cLng E (h 9) 96 shi, cObj (h 13) 1 [.int (bI em), .long le, .long gr]] [10, 11, 12] [0, 1, 2, 3, 4, 5, 6, 7, 8, 9, 13] (m_X0_highOf l E (h 10) (h 11) (h 12) fs lf hf c (by omega)) dX3_calculate_15 gX3_calculate_X0_highOf rfl (by decide +kernel) rfl ⟨rfl, rfl⟩ (by decide) rfl (Nat.le_of_ble_eq_true rfl) (by decide) rfl rfl rfl rfl (by decide) (by decide) (by decide) ?_
  rintro v_3 w_4 ⟨rfl, rfl⟩
  refine k_perm (wX3 E h cd n sc rt on lo hi son slo shi fs lf hf em le gr) [0, 1, 2, 3, 4, 5, 6, 7, 8, 9, 11, 12, 13, 10] (by decide) rfl ?_
  show kK g (wX3 E h cd n sc rt on lo hi son slo shi fs lf hf em le gr) [(4, .long (lf c)), (0, .ref (h 0)), (1, .int o), (2, .int (nI b)), (3, .int (nI c))] 0 0 18 [.long (hf c)]
  refine k_lstore F (pc := 18) [(6, .long (hf c)), (4, .long (lf c)), (0, .ref (h 0)), (1, .int o), (2, .int (nI b)), (3, .int (nI c))] dX3_calculate_18 (by decide) rfl ?_
  refine k_aload_n F (pc := 20) 2 rfl dX3_calculate_20 rfl ?_
  refine k_get F (pc := 21) (ref := RX3) (C := RX3) (T := TX3) (N := 8) (ci := 3) 0 7 dX3_calculate_21 zin_X3_calculate_X3 rfl rfl (by decide) zm_X3_calculate_f44 rfl rfl ?_
  refine k_callV F (pc := 24) (C := RX1) (T := TX1) (N := 3) (ci := 1) [] [] 0 (wX1 E (h 13) em le gr) [cObj (h 0) 3 [.ref (h 1), .int (nI n), .int (bI sc), .int (nI rt), .ref (h 2), .ref (h 6), .ref (h 10), .ref (h 13)], cInt E (h 1) 96 cd, cObj (h 2) 2 [.ref (h 3), .ref (h 4), .ref (h 5)], cBoo E (h 3) 24 on, cLng E (h 4) 96 lo, cLng E (h 5) 96 hi, cObj (h 6) 2 [.ref (h 7), .ref (h 8), .ref (h 9)], cBoo E (h 7) 24 son, cLng E (h 8) 96 slo, cLng E (h 9) 96 shi, cObj (h 10) 0 [.int (bI fs), .ref (h 11), .ref (h 12)], cLng E (h 11) 4 lf, cLng E (h 12) 4 hf] [13] [0, 1, 2, 3, 4, 5, 6, 7, 8, 9, 10, 11, 12] (m_X1_forget l E (h 13) em le gr) dX3_calculate_24 gX3_calculate_X1_forget rfl (by decide +kernel) rfl ⟨rfl, rfl⟩ (by decide) rfl (Nat.le_of_ble_eq_true rfl) (by decide) rfl rfl rfl rfl (by decide) (by decide) (by decide) ?_
  rintro v_5 w_6 ⟨rfl, rfl⟩
  refine k_perm (wX3 E h cd n sc rt on lo hi son slo shi fs lf hf true le gr) [0, 1, 2, 3, 4, 5, 6, 7, 8, 9, 10, 11, 12, 13] (by decide) rfl ?_
  show kK g (wX3 E h cd n sc rt on lo hi son slo shi fs lf hf true le gr) [(6, .long (hf c)), (4, .long (lf c)), (0, .ref (h 0)), (1, .int o), (2, .int (nI b)), (3, .int (nI c))] 0 0 27 []
  refine k_iload_n F (pc := 27) 3 rfl dX3_calculate_27 rfl ?_
  refine k_bipush F (pc := 28) ((nI 6)) dX3_calculate_28 (by decide) ?_
  refine k_icmp_ne F (pc := 30) 66 dX3_calculate_30 (by decide) rfl (show (nI 6 : Int32).toInt = 6 by decide) (fun c_7 => ?_) (fun c_7 => ?_)
  · skip
    refine k_aload_n F (pc := 66) 2 rfl dX3_calculate_66 rfl ?_
    refine k_iload_n F (pc := 67) 3 rfl dX3_calculate_67 rfl ?_
    refine k_iload_n F (pc := 68) 4 rfl dX3_calculate_68 rfl ?_
    refine k_lload F (pc := 69) 1 rfl dX3_calculate_69 ?_
    refine k_lload F (pc := 71) 0 rfl dX3_calculate_71 ?_
    refine k_callV F (pc := 73) (C := RX3) (T := TX3) (N := 8) (ci := 3) [.int o, .int (nI b), .long (lf c), .long (hf c)] [] 4 (wX3 E h cd n sc rt on lo hi son slo shi fs lf hf true le gr) [] [0, 1, 2, 3, 4, 5, 6, 7, 8, 9, 10, 11, 12, 13] [] (m_X3_takeEnds l E h cd n sc rt on lo hi son slo shi fs lf hf true le gr o b (lf c) (hf c) none (by omega) ⟨fun _ => rfl, fun a b h => by cases h⟩ (by omega)) dX3_calculate_73 gX3_calculate_X3_takeEnds rfl (by decide +kernel) rfl ⟨rfl, rfl⟩ (by decide) rfl (Nat.le_of_ble_eq_true rfl) (by decide) rfl rfl rfl rfl (by decide) (by decide) (by decide) ?_
    rintro v_11 w_12 ⟨em1_8, le1_9, gr1_10, rfl, rfl, h3⟩
    refine k_perm (wX3 E h cd n sc rt on lo hi son slo shi fs lf hf em1_8 le1_9 gr1_10) [0, 1, 2, 3, 4, 5, 6, 7, 8, 9, 10, 11, 12, 13] (by decide) rfl ?_
    show kK g (wX3 E h cd n sc rt on lo hi son slo shi fs lf hf em1_8 le1_9 gr1_10) [(6, .long (hf c)), (4, .long (lf c)), (0, .ref (h 0)), (1, .int o), (2, .int (nI b)), (3, .int (nI c))] 0 0 76 []
    refine k_vret F Rr (pc := 76) dX3_calculate_76 ⟨em1_8, le1_9, gr1_10, rfl, rfl, ?_⟩
    first
    | (rw [(by assumption : o.toInt = 6)] at h2 ⊢; rw [← calc6 hle]; exact h2)
    | (rw [calcR, if_neg (by assumption)]; rw [if_neg (by rw [Int64.lt_iff_toInt_lt]; omega)] at h3; exact h3)
  · skip
    refine k_aload_n F (pc := 33) 2 rfl dX3_calculate_33 rfl ?_
    refine k_iload_n F (pc := 34) 3 rfl dX3_calculate_34 rfl ?_
    refine k_iload_n F (pc := 35) 4 rfl dX3_calculate_35 rfl ?_
    refine k_lload F (pc := 36) 1 rfl dX3_calculate_36 ?_
    refine k_lload F (pc := 38) 0 rfl dX3_calculate_38 ?_
    refine k_ldc2 F (pc := 40) (-1) dX3_calculate_40 zm_X3_calculate_c166 ?_
    refine k_mmin F (pc := 43) dX3_calculate_43 zm_X3_calculate_min168a zm_X3_calculate_minb zm_X3_calculate_mathc zm_X3_calculate_mind (by decide) (Nat.le_of_ble_eq_true rfl) (by decide) (by decide) ?_
    refine k_callV F (pc := 46) (C := RX3) (T := TX3) (N := 8) (ci := 3) [.int o, .int (nI b), .long (lf c), .long (if (-1) < (hf c) then (-1) else (hf c))] [] 4 (wX3 E h cd n sc rt on lo hi son slo shi fs lf hf true le gr) [] [0, 1, 2, 3, 4, 5, 6, 7, 8, 9, 10, 11, 12, 13] [] (m_X3_takeEnds l E h cd n sc rt on lo hi son slo shi fs lf hf true le gr o b (lf c) (if (-1) < (hf c) then (-1) else (hf c)) none (by omega) ⟨fun _ => rfl, fun a b h => by cases h⟩ neg_part) dX3_calculate_46 gX3_calculate_X3_takeEnds rfl (by decide +kernel) rfl ⟨rfl, rfl⟩ (by decide) rfl (Nat.le_of_ble_eq_true rfl) (by decide) rfl rfl rfl rfl (by decide) (by decide) (by decide) ?_
    rintro v_16 w_17 ⟨em1_13, le1_14, gr1_15, rfl, rfl, h1⟩
    refine k_perm (wX3 E h cd n sc rt on lo hi son slo shi fs lf hf em1_13 le1_14 gr1_15) [0, 1, 2, 3, 4, 5, 6, 7, 8, 9, 10, 11, 12, 13] (by decide) rfl ?_
    show kK g (wX3 E h cd n sc rt on lo hi son slo shi fs lf hf em1_13 le1_14 gr1_15) [(6, .long (hf c)), (4, .long (lf c)), (0, .ref (h 0)), (1, .int o), (2, .int (nI b)), (3, .int (nI c))] 0 0 49 []
    refine k_aload_n F (pc := 49) 2 rfl dX3_calculate_49 rfl ?_
    refine k_iload_n F (pc := 50) 3 rfl dX3_calculate_50 rfl ?_
    refine k_iload_n F (pc := 51) 4 rfl dX3_calculate_51 rfl ?_
    refine k_lload F (pc := 52) 1 rfl dX3_calculate_52 ?_
    refine k_lconst F (pc := 54) 1 dX3_calculate_54 (by decide) ?_
    refine k_mmax F (pc := 55) dX3_calculate_55 zm_X3_calculate_max178a zm_X3_calculate_maxb zm_X3_calculate_mathc zm_X3_calculate_maxd (by decide) (Nat.le_of_ble_eq_true rfl) (by decide) (by decide) ?_
    refine k_lload F (pc := 58) 0 rfl dX3_calculate_58 ?_
    refine k_callV F (pc := 60) (C := RX3) (T := TX3) (N := 8) (ci := 3) [.int o, .int (nI b), .long (if 1 < (lf c) then (lf c) else 1), .long (hf c)] [] 4 (wX3 E h cd n sc rt on lo hi son slo shi fs lf hf em1_13 le1_14 gr1_15) [] [0, 1, 2, 3, 4, 5, 6, 7, 8, 9, 10, 11, 12, 13] [] (m_X3_takeEnds l E h cd n sc rt on lo hi son slo shi fs lf hf em1_13 le1_14 gr1_15 o b (if 1 < (lf c) then (lf c) else 1) (hf c) (if (if (-1) < hf c then (-1) else hf c) < lf c then none else tk4 o.toInt (lf b) (hf b) (lf c) (if (-1) < hf c then (-1) else hf c) none) (by omega) h1 pos_part) dX3_calculate_60 gX3_calculate_X3_takeEnds rfl (by decide +kernel) rfl ⟨rfl, rfl⟩ (by decide) rfl (Nat.le_of_ble_eq_true rfl) (by decide) rfl rfl rfl rfl (by decide) (by decide) (by decide) ?_
    rintro v_21 w_22 ⟨em1_18, le1_19, gr1_20, rfl, rfl, h2⟩
    refine k_perm (wX3 E h cd n sc rt on lo hi son slo shi fs lf hf em1_18 le1_19 gr1_20) [0, 1, 2, 3, 4, 5, 6, 7, 8, 9, 10, 11, 12, 13] (by decide) rfl ?_
    show kK g (wX3 E h cd n sc rt on lo hi son slo shi fs lf hf em1_18 le1_19 gr1_20) [(6, .long (hf c)), (4, .long (lf c)), (0, .ref (h 0)), (1, .int o), (2, .int (nI b)), (3, .int (nI c))] 0 0 63 []
    refine k_goto F (pc := 63) 76 dX3_calculate_63 (by decide) ?_
    refine k_vret F Rr (pc := 76) dX3_calculate_76 ⟨em1_18, le1_19, gr1_20, rfl, rfl, ?_⟩
    first
    | (rw [(by assumption : o.toInt = 6)] at h2 ⊢; rw [← calc6 hle]; exact h2)
    | (rw [calcR, if_neg (by assumption)]; rw [if_neg (by rw [Int64.lt_iff_toInt_lt]; omega)] at h3; exact h3)
theorem zm_X3_putResults_f44 : (Cond.fieldLink RX3 44 RX3 "results" "LRangeScan$Results;" : Cond) ∈ wsX3_putResults := by decide +kernel
theorem zin_X3_putResults_X3 : ∀ w ∈ u_ws RX3 TX3 8, w ∈ wsX3_putResults := by decide +kernel
theorem zm_X3_putResults_f37 : (Cond.fieldLink RX3 37 RX3 "flow" "LRangeScan$Flow;" : Cond) ∈ wsX3_putResults := by decide +kernel
theorem zm_X3_putResults_c149 : (Cond.constantLong RX3 149 (-2147483648) : Cond) ∈ wsX3_putResults := by decide +kernel
theorem zm_X3_putResults_c151 : (Cond.constantLong RX3 151 (2147483647) : Cond) ∈ wsX3_putResults := by decide +kernel
set_option maxHeartbeats 4000000 in
set_option maxRecDepth 100000 in
theorem m_X3_putResults (l : Launch) (E : kE) (h : Nat → Nat) (cd : Nat → Int32) (n : Nat) (sc : Bool) (rt : Nat) (on : Nat → Bool) (lo : Nat → Int64) (hi : Nat → Int64) (son : Nat → Bool) (slo : Nat → Int64) (shi : Nat → Int64) (fs : Bool) (lf : Nat → Int64) (hf : Nat → Int64) (em : Bool) (le : Int64) (gr : Int64) (a : Nat) (rs : RS) (ha : a < 4) (hrr : RRep em le gr rs) : kC l yX3_putResults wsX3_putResults ({ frames := 2, cells := 0, slots := 0, locals := 40 } : Room) E [.ref (h 0), .int (nI a)] (wX3 E h cd n sc rt on lo hi son slo shi fs lf hf em le gr) 0 0 (fun v_ w_ => ∃ (fs1 : Bool) (lf1 : Nat → Int64) (hf1 : Nat → Int64), v_ = none ∧ w_ = (wX3 E h cd n sc rt on lo hi son slo shi fs1 lf1 hf1 em le gr) ∧ (∀ X, FRep fs lf hf (some X) → FRep fs1 lf1 hf1 (resP X a rs))) := by
  refine kC.enter cX3_putResults 2 none [(0, .ref (h 0)), (1, .int (nI a))] (by decide) rfl (Nat.le_of_ble_eq_true rfl) rfl ?_
  intro g F Rr
  refine k_aload_n F (pc := 0) 0 rfl dX3_putResults_0 rfl ?_
  refine k_get F (pc := 1) (ref := RX3) (C := RX3) (T := TX3) (N := 8) (ci := 3) 0 7 dX3_putResults_1 zin_X3_putResults_X3 rfl rfl (by decide) zm_X3_putResults_f44 rfl rfl ?_
  refine k_callV F (pc := 4) (C := RX1) (T := TX1) (N := 3) (ci := 1) [] [] 0 (wX1 E (h 13) em le gr) [cObj (h 0) 3 [.ref (h 1), .int (nI n), .int (bI sc), .int (nI rt), .ref (h 2), .ref (h 6), .ref (h 10), .ref (h 13)], cInt E (h 1) 96 cd, cObj (h 2) 2 [.ref (h 3), .ref (h 4), .ref (h 5)], cBoo E (h 3) 24 on, cLng E (h 4) 96 lo, cLng E (h 5) 96 hi, cObj (h 6) 2 [.ref (h 7), .ref (h 8), .ref (h 9)], cBoo E (h 7) 24 son, cLng E (h 8) 96 slo, cLng E (h 9) 96 shi, cObj (h 10) 0 [.int (bI fs), .ref (h 11), .ref (h 12)], cLng E (h 11) 4 lf, cLng E (h 12) 4 hf] [13] [0, 1, 2, 3, 4, 5, 6, 7, 8, 9, 10, 11, 12] (m_X1_isEmpty l E (h 13) em le gr) dX3_putResults_4 gX3_putResults_X1_isEmpty rfl (by decide +kernel) rfl ⟨rfl, rfl⟩ (by decide) rfl (Nat.le_of_ble_eq_true rfl) (by decide) rfl rfl rfl rfl (by decide) (by decide) (by decide) ?_
  rintro v_1 w_2 ⟨rfl, rfl⟩
  refine k_perm (wX3 E h cd n sc rt on lo hi son slo shi fs lf hf em le gr) [0, 1, 2, 3, 4, 5, 6, 7, 8, 9, 10, 11, 12, 13] (by decide) rfl ?_
  show kK g (wX3 E h cd n sc rt on lo hi son slo shi fs lf hf em le gr) [(0, .ref (h 0)), (1, .int (nI a))] 0 0 7 [.int (bI em)]
  refine k_if_eqB F (pc := 7) 20 dX3_putResults_7 (by decide) (fun c_3 => ?_) (fun c_3 => ?_)
  · skip
    rw [c_3] at hrr
    have hsm := hrr.some_of
    refine k_aload_n F (pc := 20) 0 rfl dX3_putResults_20 rfl ?_
    refine k_get F (pc := 21) (ref := RX3) (C := RX3) (T := TX3) (N := 8) (ci := 3) 0 7 dX3_putResults_21 zin_X3_putResults_X3 rfl rfl (by decide) zm_X3_putResults_f44 rfl rfl ?_
    refine k_callV F (pc := 24) (C := RX1) (T := TX1) (N := 3) (ci := 1) [] [] 0 (wX1 E (h 13) em le gr) [cObj (h 0) 3 [.ref (h 1), .int (nI n), .int (bI sc), .int (nI rt), .ref (h 2), .ref (h 6), .ref (h 10), .ref (h 13)], cInt E (h 1) 96 cd, cObj (h 2) 2 [.ref (h 3), .ref (h 4), .ref (h 5)], cBoo E (h 3) 24 on, cLng E (h 4) 96 lo, cLng E (h 5) 96 hi, cObj (h 6) 2 [.ref (h 7), .ref (h 8), .ref (h 9)], cBoo E (h 7) 24 son, cLng E (h 8) 96 slo, cLng E (h 9) 96 shi, cObj (h 10) 0 [.int (bI fs), .ref (h 11), .ref (h 12)], cLng E (h 11) 4 lf, cLng E (h 12) 4 hf] [13] [0, 1, 2, 3, 4, 5, 6, 7, 8, 9, 10, 11, 12] (m_X1_wrapTogether l E (h 13) em le gr) dX3_putResults_24 gX3_putResults_X1_wrapTogether rfl (by decide +kernel) rfl ⟨rfl, rfl⟩ (by decide) rfl (Nat.le_of_ble_eq_true rfl) (by decide) rfl rfl rfl rfl (by decide) (by decide) (by decide) ?_
    rintro v_6 w_7 ⟨r_4, rfl, rfl, hc_5⟩
    refine k_perm (wX3 E h cd n sc rt on lo hi son slo shi fs lf hf em le gr) [0, 1, 2, 3, 4, 5, 6, 7, 8, 9, 10, 11, 12, 13] (by decide) rfl ?_
    show kK g (wX3 E h cd n sc rt on lo hi son slo shi fs lf hf em le gr) [(0, .ref (h 0)), (1, .int (nI a))] 0 0 27 [.int (bI r_4)]
    refine k_if_eqB F (pc := 27) 55 dX3_putResults_27 (by decide) (fun c_8 => ?_) (fun c_8 => ?_)
    · skip
      have hb_9 := k_ff hc_5 c_8
      refine k_aload_n F (pc := 55) 0 rfl dX3_putResults_55 rfl ?_
      refine k_get F (pc := 56) (ref := RX3) (C := RX3) (T := TX3) (N := 8) (ci := 3) 0 6 dX3_putResults_56 zin_X3_putResults_X3 rfl rfl (by decide) zm_X3_putResults_f37 rfl rfl ?_
      refine k_iload_n F (pc := 59) 1 rfl dX3_putResults_59 rfl ?_
      refine k_ldc2 F (pc := 60) (-2147483648) dX3_putResults_60 zm_X3_putResults_c149 ?_
      refine k_ldc2 F (pc := 63) (2147483647) dX3_putResults_63 zm_X3_putResults_c151 ?_
      refine k_callV F (pc := 66) (C := RX0) (T := TX0) (N := 3) (ci := 0) [.int (nI a), .long (-2147483648), .long 2147483647] [] 3 (wX0 E (h 10) (h 11) (h 12) fs lf hf) [cObj (h 0) 3 [.ref (h 1), .int (nI n), .int (bI sc), .int (nI rt), .ref (h 2), .ref (h 6), .ref (h 10), .ref (h 13)], cInt E (h 1) 96 cd, cObj (h 2) 2 [.ref (h 3), .ref (h 4), .ref (h 5)], cBoo E (h 3) 24 on, cLng E (h 4) 96 lo, cLng E (h 5) 96 hi, cObj (h 6) 2 [.ref (h 7), .ref (h 8), .ref (h 9)], cBoo E (h 7) 24 son, cLng E (h 8) 96 slo, cLng E (h 9) 96 shi, cObj (h 13) 1 [.int (bI em), .long le, .long gr]] [10, 11, 12] [0, 1, 2, 3, 4, 5, 6, 7, 8, 9, 13] (m_X0_put l E (h 10) (h 11) (h 12) fs lf hf a (-2147483648) 2147483647 (by omega)) dX3_putResults_66 gX3_putResults_X0_put rfl (by decide +kernel) rfl ⟨rfl, rfl⟩ (by decide) rfl (Nat.le_of_ble_eq_true rfl) (by decide) rfl rfl rfl rfl (by decide) (by decide) (by decide) ?_
      rintro v_10 w_11 ⟨rfl, rfl⟩
      refine k_perm (wX3 E h cd n sc rt on lo hi son slo shi fs (vp_updL lf a (-2147483648)) (vp_updL hf a 2147483647) em le gr) [0, 1, 2, 3, 4, 5, 6, 7, 8, 9, 11, 12, 13, 10] (by decide) rfl ?_
      show kK g (wX3 E h cd n sc rt on lo hi son slo shi fs (vp_updL lf a (-2147483648)) (vp_updL hf a 2147483647) em le gr) [(0, .ref (h 0)), (1, .int (nI a))] 0 0 69 []
      refine k_vret F Rr (pc := 69) dX3_putResults_69 ⟨fs, (vp_updL lf a (-2147483648)), (vp_updL hf a 2147483647), rfl, rfl, ?_⟩
      first
      | (intro X hX; rw [hN]; exact frep_none)
      | (rw [hsm]; exact putRes_w (by assumption))
      | (rw [hsm]; exact putRes_n (by assumption))
    · skip
      have hb_12 := hc_5.mp c_8
      refine k_aload_n F (pc := 30) 0 rfl dX3_putResults_30 rfl ?_
      refine k_get F (pc := 31) (ref := RX3) (C := RX3) (T := TX3) (N := 8) (ci := 3) 0 6 dX3_putResults_31 zin_X3_putResults_X3 rfl rfl (by decide) zm_X3_putResults_f37 rfl rfl ?_
      refine k_iload_n F (pc := 34) 1 rfl dX3_putResults_34 rfl ?_
      refine k_aload_n F (pc := 35) 0 rfl dX3_putResults_35 rfl ?_
      refine k_get F (pc := 36) (ref := RX3) (C := RX3) (T := TX3) (N := 8) (ci := 3) 0 7 dX3_putResults_36 zin_X3_putResults_X3 rfl rfl (by decide) zm_X3_putResults_f44 rfl rfl ?_
      refine k_callV F (pc := 39) (C := RX1) (T := TX1) (N := 3) (ci := 1) [] [.int (nI a), .ref (h 10)] 0 (wX1 E (h 13) em le gr) [cObj (h 0) 3 [.ref (h 1), .int (nI n), .int (bI sc), .int (nI rt), .ref (h 2), .ref (h 6), .ref (h 10), .ref (h 13)], cInt E (h 1) 96 cd, cObj (h 2) 2 [.ref (h 3), .ref (h 4), .ref (h 5)], cBoo E (h 3) 24 on, cLng E (h 4) 96 lo, cLng E (h 5) 96 hi, cObj (h 6) 2 [.ref (h 7), .ref (h 8), .ref (h 9)], cBoo E (h 7) 24 son, cLng E (h 8) 96 slo, cLng E (h 9) 96 shi, cObj (h 10) 0 [.int (bI fs), .ref (h 11), .ref (h 12)], cLng E (h 11) 4 lf, cLng E (h 12) 4 hf] [13] [0, 1, 2, 3, 4, 5, 6, 7, 8, 9, 10, 11, 12] (m_X1_wrappedLeast l E (h 13) em le gr) dX3_putResults_39 gX3_putResults_X1_wrappedLeast rfl (by decide +kernel) rfl ⟨rfl, rfl⟩ (by decide) rfl (Nat.le_of_ble_eq_true rfl) (by decide) rfl rfl rfl rfl (by decide) (by decide) (by decide) ?_
      rintro v_13 w_14 ⟨rfl, rfl⟩
      refine k_perm (wX3 E h cd n sc rt on lo hi son slo shi fs lf hf em le gr) [0, 1, 2, 3, 4, 5, 6, 7, 8, 9, 10, 11, 12, 13] (by decide) rfl ?_
      show kK g (wX3 E h cd n sc rt on lo hi son slo shi fs lf hf em le gr) [(0, .ref (h 0)), (1, .int (nI a))] 0 0 42 [.long le.toInt32.toInt64, .int (nI a), .ref (h 10)]
      refine k_aload_n F (pc := 42) 0 rfl dX3_putResults_42 rfl ?_
      refine k_get F (pc := 43) (ref := RX3) (C := RX3) (T := TX3) (N := 8) (ci := 3) 0 7 dX3_putResults_43 zin_X3_putResults_X3 rfl rfl (by decide) zm_X3_putResults_f44 rfl rfl ?_
      refine k_callV F (pc := 46) (C := RX1) (T := TX1) (N := 3) (ci := 1) [] [.long le.toInt32.toInt64, .int (nI a), .ref (h 10)] 0 (wX1 E (h 13) em le gr) [cObj (h 0) 3 [.ref (h 1), .int (nI n), .int (bI sc), .int (nI rt), .ref (h 2), .ref (h 6), .ref (h 10), .ref (h 13)], cInt E (h 1) 96 cd, cObj (h 2) 2 [.ref (h 3), .ref (h 4), .ref (h 5)], cBoo E (h 3) 24 on, cLng E (h 4) 96 lo, cLng E (h 5) 96 hi, cObj (h 6) 2 [.ref (h 7), .ref (h 8), .ref (h 9)], cBoo E (h 7) 24 son, cLng E (h 8) 96 slo, cLng E (h 9) 96 shi, cObj (h 10) 0 [.int (bI fs), .ref (h 11), .ref (h 12)], cLng E (h 11) 4 lf, cLng E (h 12) 4 hf] [13] [0, 1, 2, 3, 4, 5, 6, 7, 8, 9, 10, 11, 12] (m_X1_wrappedGreatest l E (h 13) em le gr) dX3_putResults_46 gX3_putResults_X1_wrappedGreatest rfl (by decide +kernel) rfl ⟨rfl, rfl⟩ (by decide) rfl (Nat.le_of_ble_eq_true rfl) (by decide) rfl rfl rfl rfl (by decide) (by decide) (by decide) ?_
      rintro v_15 w_16 ⟨rfl, rfl⟩
      refine k_perm (wX3 E h cd n sc rt on lo hi son slo shi fs lf hf em le gr) [0, 1, 2, 3, 4, 5, 6, 7, 8, 9, 10, 11, 12, 13] (by decide) rfl ?_
      show kK g (wX3 E h cd n sc rt on lo hi son slo shi fs lf hf em le gr) [(0, .ref (h 0)), (1, .int (nI a))] 0 0 49 [.long gr.toInt32.toInt64, .long le.toInt32.toInt64, .int (nI a), .ref (h 10)]
      refine k_callV F (pc := 49) (C := RX0) (T := TX0) (N := 3) (ci := 0) [.int (nI a), .long le.toInt32.toInt64, .long gr.toInt32.toInt64] [] 3 (wX0 E (h 10) (h 11) (h 12) fs lf hf) [cObj (h 0) 3 [.ref (h 1), .int (nI n), .int (bI sc), .int (nI rt), .ref (h 2), .ref (h 6), .ref (h 10), .ref (h 13)], cInt E (h 1) 96 cd, cObj (h 2) 2 [.ref (h 3), .ref (h 4), .ref (h 5)], cBoo E (h 3) 24 on, cLng E (h 4) 96 lo, cLng E (h 5) 96 hi, cObj (h 6) 2 [.ref (h 7), .ref (h 8), .ref (h 9)], cBoo E (h 7) 24 son, cLng E (h 8) 96 slo, cLng E (h 9) 96 shi, cObj (h 13) 1 [.int (bI em), .long le, .long gr]] [10, 11, 12] [0, 1, 2, 3, 4, 5, 6, 7, 8, 9, 13] (m_X0_put l E (h 10) (h 11) (h 12) fs lf hf a le.toInt32.toInt64 gr.toInt32.toInt64 (by omega)) dX3_putResults_49 gX3_putResults_X0_put rfl (by decide +kernel) rfl ⟨rfl, rfl⟩ (by decide) rfl (Nat.le_of_ble_eq_true rfl) (by decide) rfl rfl rfl rfl (by decide) (by decide) (by decide) ?_
      rintro v_17 w_18 ⟨rfl, rfl⟩
      refine k_perm (wX3 E h cd n sc rt on lo hi son slo shi fs (vp_updL lf a le.toInt32.toInt64) (vp_updL hf a gr.toInt32.toInt64) em le gr) [0, 1, 2, 3, 4, 5, 6, 7, 8, 9, 11, 12, 13, 10] (by decide) rfl ?_
      show kK g (wX3 E h cd n sc rt on lo hi son slo shi fs (vp_updL lf a le.toInt32.toInt64) (vp_updL hf a gr.toInt32.toInt64) em le gr) [(0, .ref (h 0)), (1, .int (nI a))] 0 0 52 []
      refine k_goto F (pc := 52) 69 dX3_putResults_52 (by decide) ?_
      refine k_vret F Rr (pc := 69) dX3_putResults_69 ⟨fs, (vp_updL lf a le.toInt32.toInt64), (vp_updL hf a gr.toInt32.toInt64), rfl, rfl, ?_⟩
      first
      | (intro X hX; rw [hN]; exact frep_none)
      | (rw [hsm]; exact putRes_w (by assumption))
      | (rw [hsm]; exact putRes_n (by assumption))
  · skip
    rw [c_3] at hrr
    have hN := hrr.none_of
    refine k_aload_n F (pc := 10) 0 rfl dX3_putResults_10 rfl ?_
    refine k_get F (pc := 11) (ref := RX3) (C := RX3) (T := TX3) (N := 8) (ci := 3) 0 6 dX3_putResults_11 zin_X3_putResults_X3 rfl rfl (by decide) zm_X3_putResults_f37 rfl rfl ?_
    refine k_callV F (pc := 14) (C := RX0) (T := TX0) (N := 3) (ci := 0) [] [] 0 (wX0 E (h 10) (h 11) (h 12) fs lf hf) [cObj (h 0) 3 [.ref (h 1), .int (nI n), .int (bI sc), .int (nI rt), .ref (h 2), .ref (h 6), .ref (h 10), .ref (h 13)], cInt E (h 1) 96 cd, cObj (h 2) 2 [.ref (h 3), .ref (h 4), .ref (h 5)], cBoo E (h 3) 24 on, cLng E (h 4) 96 lo, cLng E (h 5) 96 hi, cObj (h 6) 2 [.ref (h 7), .ref (h 8), .ref (h 9)], cBoo E (h 7) 24 son, cLng E (h 8) 96 slo, cLng E (h 9) 96 shi, cObj (h 13) 1 [.int (bI em), .long le, .long gr]] [10, 11, 12] [0, 1, 2, 3, 4, 5, 6, 7, 8, 9, 13] (m_X0_stop l E (h 10) (h 11) (h 12) fs lf hf) dX3_putResults_14 gX3_putResults_X0_stop rfl (by decide +kernel) rfl ⟨rfl, rfl⟩ (by decide) rfl (Nat.le_of_ble_eq_true rfl) (by decide) rfl rfl rfl rfl (by decide) (by decide) (by decide) ?_
    rintro v_19 w_20 ⟨rfl, rfl⟩
    refine k_perm (wX3 E h cd n sc rt on lo hi son slo shi false lf hf em le gr) [0, 1, 2, 3, 4, 5, 6, 7, 8, 9, 11, 12, 13, 10] (by decide) rfl ?_
    show kK g (wX3 E h cd n sc rt on lo hi son slo shi false lf hf em le gr) [(0, .ref (h 0)), (1, .int (nI a))] 0 0 17 []
    refine k_goto F (pc := 17) 69 dX3_putResults_17 (by decide) ?_
    refine k_vret F Rr (pc := 69) dX3_putResults_69 ⟨false, lf, hf, rfl, rfl, ?_⟩
    first
    | (intro X hX; rw [hN]; exact frep_none)
    | (rw [hsm]; exact putRes_w (by assumption))
    | (rw [hsm]; exact putRes_n (by assumption))
theorem zm_X3_stopOutsideArray_f37 : (Cond.fieldLink RX3 37 RX3 "flow" "LRangeScan$Flow;" : Cond) ∈ wsX3_stopOutsideArray := by decide +kernel
theorem zin_X3_stopOutsideArray_X3 : ∀ w ∈ u_ws RX3 TX3 8, w ∈ wsX3_stopOutsideArray := by decide +kernel
theorem zm_X3_stopOutsideArray_c201 : (Cond.constantLong RX3 201 (7) : Cond) ∈ wsX3_stopOutsideArray := by decide +kernel
set_option maxHeartbeats 4000000 in
set_option maxRecDepth 100000 in
theorem m_X3_stopOutsideArray (l : Launch) (E : kE) (h : Nat → Nat) (cd : Nat → Int32) (n : Nat) (sc : Bool) (rt : Nat) (on : Nat → Bool) (lo : Nat → Int64) (hi : Nat → Int64) (son : Nat → Bool) (slo : Nat → Int64) (shi : Nat → Int64) (fs : Bool) (lf : Nat → Int64) (hf : Nat → Int64) (em : Bool) (le : Int64) (gr : Int64) (b : Nat) (hb : b < 4) : kC l yX3_stopOutsideArray wsX3_stopOutsideArray ({ frames := 1, cells := 0, slots := 0, locals := 21 } : Room) E [.ref (h 0), .int (nI b)] (wX3 E h cd n sc rt on lo hi son slo shi fs lf hf em le gr) 0 0 (fun v_ w_ => ∃ (fs1 : Bool), v_ = none ∧ w_ = (wX3 E h cd n sc rt on lo hi son slo shi fs1 lf hf em le gr) ∧ ((hf b < 0 ∨ 7 < lf b → fs1 = false) ∧ (¬ (hf b < 0 ∨ 7 < lf b) → fs1 = fs))) := by
  refine kC.enter cX3_stopOutsideArray 2 none [(0, .ref (h 0)), (1, .int (nI b))] (by decide) rfl (Nat.le_of_ble_eq_true rfl) rfl ?_
  intro g F Rr
  refine k_aload_n F (pc := 0) 0 rfl dX3_stopOutsideArray_0 rfl ?_
  refine k_get F (pc := 1) (ref := RX3) (C := RX3) (T := TX3) (N := 8) (ci := 3) 0 6 dX3_stopOutsideArray_1 zin_X3_stopOutsideArray_X3 rfl rfl (by decide) zm_X3_stopOutsideArray_f37 rfl rfl ?_
  refine k_iload_n F (pc := 4) 1 rfl dX3_stopOutsideArray_4 rfl ?_
  refine k_callV F (pc := 5) (C := RX0) (T := TX0) (N := 3) (ci := 0) [.int (nI b)] [] 1 (wX0 E (h 10) (h 11) (h 12) fs lf hf) [cObj (h 0) 3 [.ref (h 1), .int (nI n), .int (bI sc), .int (nI rt), .ref (h 2), .ref (h 6), .ref (h 10), .ref (h 13)], cInt E (h 1) 96 cd, cObj (h 2) 2 [.ref (h 3), .ref (h 4), .ref (h 5)], cBoo E (h 3) 24 on, cLng E (h 4) 96 lo, cLng E (h 5) 96 hi, cObj (h 6) 2 [.ref (h 7), .ref (h 8), .ref (h 9)], cBoo E (h 7) 24 son, cLng E (h 8) 96 slo, cLng E (h 9) 96 shi, cObj (h 13) 1 [.int (bI em), .long le, .long gr]] [10, 11, 12] [0, 1, 2, 3, 4, 5, 6, 7, 8, 9, 13] (m_X0_highOf l E (h 10) (h 11) (h 12) fs lf hf b (by omega)) dX3_stopOutsideArray_5 gX3_stopOutsideArray_X0_highOf rfl (by decide +kernel) rfl ⟨rfl, rfl⟩ (by decide) rfl (Nat.le_of_ble_eq_true rfl) (by decide) rfl rfl rfl rfl (by decide) (by decide) (by decide) ?_
  rintro v_1 w_2 ⟨rfl, rfl⟩
  refine k_perm (wX3 E h cd n sc rt on lo hi son slo shi fs lf hf em le gr) [0, 1, 2, 3, 4, 5, 6, 7, 8, 9, 11, 12, 13, 10] (by decide) rfl ?_
  show kK g (wX3 E h cd n sc rt on lo hi son slo shi fs lf hf em le gr) [(0, .ref (h 0)), (1, .int (nI b))] 0 0 8 [.long (hf b)]
  refine k_lconst F (pc := 8) 0 dX3_stopOutsideArray_8 (by decide) ?_
  refine k_lcmp_lt F (pc := 9) 28 dX3_stopOutsideArray_9 dX3_stopOutsideArray_10 (by decide) (fun c_3 => ?_) (fun c_3 => ?_)
  · skip
    refine k_aload_n F (pc := 28) 0 rfl dX3_stopOutsideArray_28 rfl ?_
    refine k_get F (pc := 29) (ref := RX3) (C := RX3) (T := TX3) (N := 8) (ci := 3) 0 6 dX3_stopOutsideArray_29 zin_X3_stopOutsideArray_X3 rfl rfl (by decide) zm_X3_stopOutsideArray_f37 rfl rfl ?_
    refine k_callV F (pc := 32) (C := RX0) (T := TX0) (N := 3) (ci := 0) [] [] 0 (wX0 E (h 10) (h 11) (h 12) fs lf hf) [cObj (h 0) 3 [.ref (h 1), .int (nI n), .int (bI sc), .int (nI rt), .ref (h 2), .ref (h 6), .ref (h 10), .ref (h 13)], cInt E (h 1) 96 cd, cObj (h 2) 2 [.ref (h 3), .ref (h 4), .ref (h 5)], cBoo E (h 3) 24 on, cLng E (h 4) 96 lo, cLng E (h 5) 96 hi, cObj (h 6) 2 [.ref (h 7), .ref (h 8), .ref (h 9)], cBoo E (h 7) 24 son, cLng E (h 8) 96 slo, cLng E (h 9) 96 shi, cObj (h 13) 1 [.int (bI em), .long le, .long gr]] [10, 11, 12] [0, 1, 2, 3, 4, 5, 6, 7, 8, 9, 13] (m_X0_stop l E (h 10) (h 11) (h 12) fs lf hf) dX3_stopOutsideArray_32 gX3_stopOutsideArray_X0_stop rfl (by decide +kernel) rfl ⟨rfl, rfl⟩ (by decide) rfl (Nat.le_of_ble_eq_true rfl) (by decide) rfl rfl rfl rfl (by decide) (by decide) (by decide) ?_
    rintro v_4 w_5 ⟨rfl, rfl⟩
    refine k_perm (wX3 E h cd n sc rt on lo hi son slo shi false lf hf em le gr) [0, 1, 2, 3, 4, 5, 6, 7, 8, 9, 11, 12, 13, 10] (by decide) rfl ?_
    show kK g (wX3 E h cd n sc rt on lo hi son slo shi false lf hf em le gr) [(0, .ref (h 0)), (1, .int (nI b))] 0 0 35 []
    refine k_vret F Rr (pc := 35) dX3_stopOutsideArray_35 ⟨false, rfl, rfl, ?_⟩
    first
    | exact ⟨fun _ => rfl, fun h => absurd (Or.inl (by assumption)) h⟩
    | exact ⟨fun _ => rfl, fun h => absurd (Or.inr (by assumption)) h⟩
    | exact ⟨fun h => by rcases h with h | h <;> exact absurd h (by assumption), fun _ => rfl⟩
  · skip
    refine k_aload_n F (pc := 13) 0 rfl dX3_stopOutsideArray_13 rfl ?_
    refine k_get F (pc := 14) (ref := RX3) (C := RX3) (T := TX3) (N := 8) (ci := 3) 0 6 dX3_stopOutsideArray_14 zin_X3_stopOutsideArray_X3 rfl rfl (by decide) zm_X3_stopOutsideArray_f37 rfl rfl ?_
    refine k_iload_n F (pc := 17) 1 rfl dX3_stopOutsideArray_17 rfl ?_
    refine k_callV F (pc := 18) (C := RX0) (T := TX0) (N := 3) (ci := 0) [.int (nI b)] [] 1 (wX0 E (h 10) (h 11) (h 12) fs lf hf) [cObj (h 0) 3 [.ref (h 1), .int (nI n), .int (bI sc), .int (nI rt), .ref (h 2), .ref (h 6), .ref (h 10), .ref (h 13)], cInt E (h 1) 96 cd, cObj (h 2) 2 [.ref (h 3), .ref (h 4), .ref (h 5)], cBoo E (h 3) 24 on, cLng E (h 4) 96 lo, cLng E (h 5) 96 hi, cObj (h 6) 2 [.ref (h 7), .ref (h 8), .ref (h 9)], cBoo E (h 7) 24 son, cLng E (h 8) 96 slo, cLng E (h 9) 96 shi, cObj (h 13) 1 [.int (bI em), .long le, .long gr]] [10, 11, 12] [0, 1, 2, 3, 4, 5, 6, 7, 8, 9, 13] (m_X0_lowOf l E (h 10) (h 11) (h 12) fs lf hf b (by omega)) dX3_stopOutsideArray_18 gX3_stopOutsideArray_X0_lowOf rfl (by decide +kernel) rfl ⟨rfl, rfl⟩ (by decide) rfl (Nat.le_of_ble_eq_true rfl) (by decide) rfl rfl rfl rfl (by decide) (by decide) (by decide) ?_
    rintro v_6 w_7 ⟨rfl, rfl⟩
    refine k_perm (wX3 E h cd n sc rt on lo hi son slo shi fs lf hf em le gr) [0, 1, 2, 3, 4, 5, 6, 7, 8, 9, 11, 12, 13, 10] (by decide) rfl ?_
    show kK g (wX3 E h cd n sc rt on lo hi son slo shi fs lf hf em le gr) [(0, .ref (h 0)), (1, .int (nI b))] 0 0 21 [.long (lf b)]
    refine k_ldc2 F (pc := 21) (7) dX3_stopOutsideArray_21 zm_X3_stopOutsideArray_c201 ?_
    refine k_lcmp_le F (pc := 24) 35 dX3_stopOutsideArray_24 dX3_stopOutsideArray_25 (by decide) (fun c_8 => ?_) (fun c_8 => ?_)
    · skip
      refine k_vret F Rr (pc := 35) dX3_stopOutsideArray_35 ⟨fs, rfl, rfl, ?_⟩
      first
      | exact ⟨fun _ => rfl, fun h => absurd (Or.inl (by assumption)) h⟩
      | exact ⟨fun _ => rfl, fun h => absurd (Or.inr (by assumption)) h⟩
      | exact ⟨fun h => by rcases h with h | h <;> exact absurd h (by assumption), fun _ => rfl⟩
    · skip
      refine k_aload_n F (pc := 28) 0 rfl dX3_stopOutsideArray_28 rfl ?_
      refine k_get F (pc := 29) (ref := RX3) (C := RX3) (T := TX3) (N := 8) (ci := 3) 0 6 dX3_stopOutsideArray_29 zin_X3_stopOutsideArray_X3 rfl rfl (by decide) zm_X3_stopOutsideArray_f37 rfl rfl ?_
      refine k_callV F (pc := 32) (C := RX0) (T := TX0) (N := 3) (ci := 0) [] [] 0 (wX0 E (h 10) (h 11) (h 12) fs lf hf) [cObj (h 0) 3 [.ref (h 1), .int (nI n), .int (bI sc), .int (nI rt), .ref (h 2), .ref (h 6), .ref (h 10), .ref (h 13)], cInt E (h 1) 96 cd, cObj (h 2) 2 [.ref (h 3), .ref (h 4), .ref (h 5)], cBoo E (h 3) 24 on, cLng E (h 4) 96 lo, cLng E (h 5) 96 hi, cObj (h 6) 2 [.ref (h 7), .ref (h 8), .ref (h 9)], cBoo E (h 7) 24 son, cLng E (h 8) 96 slo, cLng E (h 9) 96 shi, cObj (h 13) 1 [.int (bI em), .long le, .long gr]] [10, 11, 12] [0, 1, 2, 3, 4, 5, 6, 7, 8, 9, 13] (m_X0_stop l E (h 10) (h 11) (h 12) fs lf hf) dX3_stopOutsideArray_32 gX3_stopOutsideArray_X0_stop rfl (by decide +kernel) rfl ⟨rfl, rfl⟩ (by decide) rfl (Nat.le_of_ble_eq_true rfl) (by decide) rfl rfl rfl rfl (by decide) (by decide) (by decide) ?_
      rintro v_9 w_10 ⟨rfl, rfl⟩
      refine k_perm (wX3 E h cd n sc rt on lo hi son slo shi false lf hf em le gr) [0, 1, 2, 3, 4, 5, 6, 7, 8, 9, 11, 12, 13, 10] (by decide) rfl ?_
      show kK g (wX3 E h cd n sc rt on lo hi son slo shi false lf hf em le gr) [(0, .ref (h 0)), (1, .int (nI b))] 0 0 35 []
      refine k_vret F Rr (pc := 35) dX3_stopOutsideArray_35 ⟨false, rfl, rfl, ?_⟩
      first
      | exact ⟨fun _ => rfl, fun h => absurd (Or.inl (by assumption)) h⟩
      | exact ⟨fun _ => rfl, fun h => absurd (Or.inr (by assumption)) h⟩
      | exact ⟨fun h => by rcases h with h | h <;> exact absurd h (by assumption), fun _ => rfl⟩
theorem zm_X3_keepNotLess_f37 : (Cond.fieldLink RX3 37 RX3 "flow" "LRangeScan$Flow;" : Cond) ∈ wsX3_keepNotLess := by decide +kernel
theorem zin_X3_keepNotLess_X3 : ∀ w ∈ u_ws RX3 TX3 8, w ∈ wsX3_keepNotLess := by decide +kernel
set_option maxHeartbeats 4000000 in
set_option maxRecDepth 100000 in
theorem m_X3_keepNotLess (l : Launch) (E : kE) (h : Nat → Nat) (cd : Nat → Int32) (n : Nat) (sc : Bool) (rt : Nat) (on : Nat → Bool) (lo : Nat → Int64) (hi : Nat → Int64) (son : Nat → Bool) (slo : Nat → Int64) (shi : Nat → Int64) (fs : Bool) (lf : Nat → Int64) (hf : Nat → Int64) (em : Bool) (le : Int64) (gr : Int64) (a : Nat) (b : Nat) (ha : a < 4) (hb : b < 4) : kC l yX3_keepNotLess wsX3_keepNotLess ({ frames := 2, cells := 0, slots := 0, locals := 44 } : Room) E [.ref (h 0), .int (nI a), .int (nI b)] (wX3 E h cd n sc rt on lo hi son slo shi fs lf hf em le gr) 0 0 (fun v_ w_ => ∃ (fs1 : Bool) (lf1 : Nat → Int64) (hf1 : Nat → Int64), v_ = none ∧ w_ = (wX3 E h cd n sc rt on lo hi son slo shi fs1 lf1 hf1 em le gr) ∧ (∀ X, FRep fs lf hf (some X) → FRep fs1 lf1 hf1 (if a = b then some X else unlessX (cmpN X a b) a b))) := by
  refine kC.enter cX3_keepNotLess 3 none [(0, .ref (h 0)), (1, .int (nI a)), (2, .int (nI b))] (by decide) rfl (Nat.le_of_ble_eq_true rfl) rfl ?_
  intro g F Rr
  refine k_iload_n F (pc := 0) 1 rfl dX3_keepNotLess_0 rfl ?_
  refine k_iload_n F (pc := 1) 2 rfl dX3_keepNotLess_1 rfl ?_
  refine k_icmp_eq F (pc := 2) 37 dX3_keepNotLess_2 (by decide) (nI_toInt (by omega)) (nI_toInt (by omega)) (fun c_1 => ?_) (fun c_1 => ?_)
  · skip
    refine k_vret F Rr (pc := 37) dX3_keepNotLess_37 ⟨fs, lf, hf, rfl, rfl, ?_⟩
    intro X hX
    first
    | (rw [if_pos (show a = b by omega)]; exact hX)
    | (rw [if_neg (show ¬ a = b by omega)]; exact keepN_fin ha hb (by omega) h1 h2 X hX)
  · skip
    refine k_aload_n F (pc := 5) 0 rfl dX3_keepNotLess_5 rfl ?_
    refine k_get F (pc := 6) (ref := RX3) (C := RX3) (T := TX3) (N := 8) (ci := 3) 0 6 dX3_keepNotLess_6 zin_X3_keepNotLess_X3 rfl rfl (by decide) zm_X3_keepNotLess_f37 rfl rfl ?_
    refine k_iload_n F (pc := 9) 1 rfl dX3_keepNotLess_9 rfl ?_
    refine k_aload_n F (pc := 10) 0 rfl dX3_keepNotLess_10 rfl ?_
    refine k_get F (pc := 11) (ref := RX3) (C := RX3) (T := TX3) (N := 8) (ci := 3) 0 6 dX3_keepNotLess_11 zin_X3_keepNotLess_X3 rfl rfl (by decide) zm_X3_keepNotLess_f37 rfl rfl ?_
    refine k_iload_n F (pc := 14) 2 rfl dX3_keepNotLess_14 rfl ?_
    refine k_callV F (pc := 15) (C := RX0) (T := TX0) (N := 3) (ci := 0) [.int (nI b)] [.int (nI a), .ref (h 10)] 1 (wX0 E (h 10) (h 11) (h 12) fs lf hf) [cObj (h 0) 3 [.ref (h 1), .int (nI n), .int (bI sc), .int (nI rt), .ref (h 2), .ref (h 6), .ref (h 10), .ref (h 13)], cInt E (h 1) 96 cd, cObj (h 2) 2 [.ref (h 3), .ref (h 4), .ref (h 5)], cBoo E (h 3) 24 on, cLng E (h 4) 96 lo, cLng E (h 5) 96 hi, cObj (h 6) 2 [.ref (h 7), .ref (h 8), .ref (h 9)], cBoo E (h 7) 24 son, cLng E (h 8) 96 slo, cLng E (h 9) 96 shi, cObj (h 13) 1 [.int (bI em), .long le, .long gr]] [10, 11, 12] [0, 1, 2, 3, 4, 5, 6, 7, 8, 9, 13] (m_X0_lowOf l E (h 10) (h 11) (h 12) fs lf hf b (by omega)) dX3_keepNotLess_15 gX3_keepNotLess_X0_lowOf rfl (by decide +kernel) rfl ⟨rfl, rfl⟩ (by decide) rfl (Nat.le_of_ble_eq_true rfl) (by decide) rfl rfl rfl rfl (by decide) (by decide) (by decide) ?_
    rintro v_2 w_3 ⟨rfl, rfl⟩
    refine k_perm (wX3 E h cd n sc rt on lo hi son slo shi fs lf hf em le gr) [0, 1, 2, 3, 4, 5, 6, 7, 8, 9, 11, 12, 13, 10] (by decide) rfl ?_
    show kK g (wX3 E h cd n sc rt on lo hi son slo shi fs lf hf em le gr) [(0, .ref (h 0)), (1, .int (nI a)), (2, .int (nI b))] 0 0 18 [.long (lf b), .int (nI a), .ref (h 10)]
    refine k_callV F (pc := 18) (C := RX0) (T := TX0) (N := 3) (ci := 0) [.int (nI a), .long (lf b)] [] 2 (wX0 E (h 10) (h 11) (h 12) fs lf hf) [cObj (h 0) 3 [.ref (h 1), .int (nI n), .int (bI sc), .int (nI rt), .ref (h 2), .ref (h 6), .ref (h 10), .ref (h 13)], cInt E (h 1) 96 cd, cObj (h 2) 2 [.ref (h 3), .ref (h 4), .ref (h 5)], cBoo E (h 3) 24 on, cLng E (h 4) 96 lo, cLng E (h 5) 96 hi, cObj (h 6) 2 [.ref (h 7), .ref (h 8), .ref (h 9)], cBoo E (h 7) 24 son, cLng E (h 8) 96 slo, cLng E (h 9) 96 shi, cObj (h 13) 1 [.int (bI em), .long le, .long gr]] [10, 11, 12] [0, 1, 2, 3, 4, 5, 6, 7, 8, 9, 13] (m_X0_raiseLow l E (h 10) (h 11) (h 12) fs lf hf a (lf b) (by omega)) dX3_keepNotLess_18 gX3_keepNotLess_X0_raiseLow rfl (by decide +kernel) rfl ⟨rfl, rfl⟩ (by decide) rfl (Nat.le_of_ble_eq_true rfl) (by decide) rfl rfl rfl rfl (by decide) (by decide) (by decide) ?_
    rintro v_5 w_6 ⟨fs1_4, rfl, rfl, h1⟩
    refine k_perm (wX3 E h cd n sc rt on lo hi son slo shi fs1_4 (vp_updL lf a (mx (lf a) (lf b))) hf em le gr) [0, 1, 2, 3, 4, 5, 6, 7, 8, 9, 11, 12, 13, 10] (by decide) rfl ?_
    show kK g (wX3 E h cd n sc rt on lo hi son slo shi fs1_4 (vp_updL lf a (mx (lf a) (lf b))) hf em le gr) [(0, .ref (h 0)), (1, .int (nI a)), (2, .int (nI b))] 0 0 21 []
    refine k_aload_n F (pc := 21) 0 rfl dX3_keepNotLess_21 rfl ?_
    refine k_get F (pc := 22) (ref := RX3) (C := RX3) (T := TX3) (N := 8) (ci := 3) 0 6 dX3_keepNotLess_22 zin_X3_keepNotLess_X3 rfl rfl (by decide) zm_X3_keepNotLess_f37 rfl rfl ?_
    refine k_iload_n F (pc := 25) 2 rfl dX3_keepNotLess_25 rfl ?_
    refine k_aload_n F (pc := 26) 0 rfl dX3_keepNotLess_26 rfl ?_
    refine k_get F (pc := 27) (ref := RX3) (C := RX3) (T := TX3) (N := 8) (ci := 3) 0 6 dX3_keepNotLess_27 zin_X3_keepNotLess_X3 rfl rfl (by decide) zm_X3_keepNotLess_f37 rfl rfl ?_
    refine k_iload_n F (pc := 30) 1 rfl dX3_keepNotLess_30 rfl ?_
    refine k_callV F (pc := 31) (C := RX0) (T := TX0) (N := 3) (ci := 0) [.int (nI a)] [.int (nI b), .ref (h 10)] 1 (wX0 E (h 10) (h 11) (h 12) fs1_4 (vp_updL lf a (mx (lf a) (lf b))) hf) [cObj (h 0) 3 [.ref (h 1), .int (nI n), .int (bI sc), .int (nI rt), .ref (h 2), .ref (h 6), .ref (h 10), .ref (h 13)], cInt E (h 1) 96 cd, cObj (h 2) 2 [.ref (h 3), .ref (h 4), .ref (h 5)], cBoo E (h 3) 24 on, cLng E (h 4) 96 lo, cLng E (h 5) 96 hi, cObj (h 6) 2 [.ref (h 7), .ref (h 8), .ref (h 9)], cBoo E (h 7) 24 son, cLng E (h 8) 96 slo, cLng E (h 9) 96 shi, cObj (h 13) 1 [.int (bI em), .long le, .long gr]] [10, 11, 12] [0, 1, 2, 3, 4, 5, 6, 7, 8, 9, 13] (m_X0_highOf l E (h 10) (h 11) (h 12) fs1_4 (vp_updL lf a (mx (lf a) (lf b))) hf a (by omega)) dX3_keepNotLess_31 gX3_keepNotLess_X0_highOf rfl (by decide +kernel) rfl ⟨rfl, rfl⟩ (by decide) rfl (Nat.le_of_ble_eq_true rfl) (by decide) rfl rfl rfl rfl (by decide) (by decide) (by decide) ?_
    rintro v_7 w_8 ⟨rfl, rfl⟩
    refine k_perm (wX3 E h cd n sc rt on lo hi son slo shi fs1_4 (vp_updL lf a (mx (lf a) (lf b))) hf em le gr) [0, 1, 2, 3, 4, 5, 6, 7, 8, 9, 11, 12, 13, 10] (by decide) rfl ?_
    show kK g (wX3 E h cd n sc rt on lo hi son slo shi fs1_4 (vp_updL lf a (mx (lf a) (lf b))) hf em le gr) [(0, .ref (h 0)), (1, .int (nI a)), (2, .int (nI b))] 0 0 34 [.long (hf a), .int (nI b), .ref (h 10)]
    refine k_callV F (pc := 34) (C := RX0) (T := TX0) (N := 3) (ci := 0) [.int (nI b), .long (hf a)] [] 2 (wX0 E (h 10) (h 11) (h 12) fs1_4 (vp_updL lf a (mx (lf a) (lf b))) hf) [cObj (h 0) 3 [.ref (h 1), .int (nI n), .int (bI sc), .int (nI rt), .ref (h 2), .ref (h 6), .ref (h 10), .ref (h 13)], cInt E (h 1) 96 cd, cObj (h 2) 2 [.ref (h 3), .ref (h 4), .ref (h 5)], cBoo E (h 3) 24 on, cLng E (h 4) 96 lo, cLng E (h 5) 96 hi, cObj (h 6) 2 [.ref (h 7), .ref (h 8), .ref (h 9)], cBoo E (h 7) 24 son, cLng E (h 8) 96 slo, cLng E (h 9) 96 shi, cObj (h 13) 1 [.int (bI em), .long le, .long gr]] [10, 11, 12] [0, 1, 2, 3, 4, 5, 6, 7, 8, 9, 13] (m_X0_lowerHigh l E (h 10) (h 11) (h 12) fs1_4 (vp_updL lf a (mx (lf a) (lf b))) hf b (hf a) (by omega)) dX3_keepNotLess_34 gX3_keepNotLess_X0_lowerHigh rfl (by decide +kernel) rfl ⟨rfl, rfl⟩ (by decide) rfl (Nat.le_of_ble_eq_true rfl) (by decide) rfl rfl rfl rfl (by decide) (by decide) (by decide) ?_
    rintro v_10 w_11 ⟨fs1_9, rfl, rfl, h2⟩
    refine k_perm (wX3 E h cd n sc rt on lo hi son slo shi fs1_9 (vp_updL lf a (mx (lf a) (lf b))) (vp_updL hf b (mn (hf b) (hf a))) em le gr) [0, 1, 2, 3, 4, 5, 6, 7, 8, 9, 11, 12, 13, 10] (by decide) rfl ?_
    show kK g (wX3 E h cd n sc rt on lo hi son slo shi fs1_9 (vp_updL lf a (mx (lf a) (lf b))) (vp_updL hf b (mn (hf b) (hf a))) em le gr) [(0, .ref (h 0)), (1, .int (nI a)), (2, .int (nI b))] 0 0 37 []
    refine k_vret F Rr (pc := 37) dX3_keepNotLess_37 ⟨fs1_9, (vp_updL lf a (mx (lf a) (lf b))), (vp_updL hf b (mn (hf b) (hf a))), rfl, rfl, ?_⟩
    intro X hX
    first
    | (rw [if_pos (show a = b by omega)]; exact hX)
    | (rw [if_neg (show ¬ a = b by omega)]; exact keepN_fin ha hb (by omega) h1 h2 X hX)
theorem zm_X3_keepLess_f37 : (Cond.fieldLink RX3 37 RX3 "flow" "LRangeScan$Flow;" : Cond) ∈ wsX3_keepLess := by decide +kernel
theorem zin_X3_keepLess_X3 : ∀ w ∈ u_ws RX3 TX3 8, w ∈ wsX3_keepLess := by decide +kernel
set_option maxHeartbeats 4000000 in
set_option maxRecDepth 100000 in
theorem m_X3_keepLess (l : Launch) (E : kE) (h : Nat → Nat) (cd : Nat → Int32) (n : Nat) (sc : Bool) (rt : Nat) (on : Nat → Bool) (lo : Nat → Int64) (hi : Nat → Int64) (son : Nat → Bool) (slo : Nat → Int64) (shi : Nat → Int64) (fs : Bool) (lf : Nat → Int64) (hf : Nat → Int64) (em : Bool) (le : Int64) (gr : Int64) (a : Nat) (b : Nat) (ha : a < 4) (hb : b < 4) : kC l yX3_keepLess wsX3_keepLess ({ frames := 2, cells := 0, slots := 0, locals := 44 } : Room) E [.ref (h 0), .int (nI a), .int (nI b)] (wX3 E h cd n sc rt on lo hi son slo shi fs lf hf em le gr) 0 0 (fun v_ w_ => ∃ (fs1 : Bool) (lf1 : Nat → Int64) (hf1 : Nat → Int64), v_ = none ∧ w_ = (wX3 E h cd n sc rt on lo hi son slo shi fs1 lf1 hf1 em le gr) ∧ (∀ X, FRep fs lf hf (some X) → FRep fs1 lf1 hf1 (if a = b then none else unlessX (cmpP X a b) a b))) := by
  refine kC.enter cX3_keepLess 3 none [(0, .ref (h 0)), (1, .int (nI a)), (2, .int (nI b))] (by decide) rfl (Nat.le_of_ble_eq_true rfl) rfl ?_
  intro g F Rr
  refine k_iload_n F (pc := 0) 1 rfl dX3_keepLess_0 rfl ?_
  refine k_iload_n F (pc := 1) 2 rfl dX3_keepLess_1 rfl ?_
  refine k_icmp_ne F (pc := 2) 15 dX3_keepLess_2 (by decide) (nI_toInt (by omega)) (nI_toInt (by omega)) (fun c_1 => ?_) (fun c_1 => ?_)
  · skip
    refine k_aload_n F (pc := 15) 0 rfl dX3_keepLess_15 rfl ?_
    refine k_get F (pc := 16) (ref := RX3) (C := RX3) (T := TX3) (N := 8) (ci := 3) 0 6 dX3_keepLess_16 zin_X3_keepLess_X3 rfl rfl (by decide) zm_X3_keepLess_f37 rfl rfl ?_
    refine k_iload_n F (pc := 19) 1 rfl dX3_keepLess_19 rfl ?_
    refine k_aload_n F (pc := 20) 0 rfl dX3_keepLess_20 rfl ?_
    refine k_get F (pc := 21) (ref := RX3) (C := RX3) (T := TX3) (N := 8) (ci := 3) 0 6 dX3_keepLess_21 zin_X3_keepLess_X3 rfl rfl (by decide) zm_X3_keepLess_f37 rfl rfl ?_
    refine k_iload_n F (pc := 24) 2 rfl dX3_keepLess_24 rfl ?_
    refine k_callV F (pc := 25) (C := RX0) (T := TX0) (N := 3) (ci := 0) [.int (nI b)] [.int (nI a), .ref (h 10)] 1 (wX0 E (h 10) (h 11) (h 12) fs lf hf) [cObj (h 0) 3 [.ref (h 1), .int (nI n), .int (bI sc), .int (nI rt), .ref (h 2), .ref (h 6), .ref (h 10), .ref (h 13)], cInt E (h 1) 96 cd, cObj (h 2) 2 [.ref (h 3), .ref (h 4), .ref (h 5)], cBoo E (h 3) 24 on, cLng E (h 4) 96 lo, cLng E (h 5) 96 hi, cObj (h 6) 2 [.ref (h 7), .ref (h 8), .ref (h 9)], cBoo E (h 7) 24 son, cLng E (h 8) 96 slo, cLng E (h 9) 96 shi, cObj (h 13) 1 [.int (bI em), .long le, .long gr]] [10, 11, 12] [0, 1, 2, 3, 4, 5, 6, 7, 8, 9, 13] (m_X0_highOf l E (h 10) (h 11) (h 12) fs lf hf b (by omega)) dX3_keepLess_25 gX3_keepLess_X0_highOf rfl (by decide +kernel) rfl ⟨rfl, rfl⟩ (by decide) rfl (Nat.le_of_ble_eq_true rfl) (by decide) rfl rfl rfl rfl (by decide) (by decide) (by decide) ?_
    rintro v_2 w_3 ⟨rfl, rfl⟩
    refine k_perm (wX3 E h cd n sc rt on lo hi son slo shi fs lf hf em le gr) [0, 1, 2, 3, 4, 5, 6, 7, 8, 9, 11, 12, 13, 10] (by decide) rfl ?_
    show kK g (wX3 E h cd n sc rt on lo hi son slo shi fs lf hf em le gr) [(0, .ref (h 0)), (1, .int (nI a)), (2, .int (nI b))] 0 0 28 [.long (hf b), .int (nI a), .ref (h 10)]
    refine k_lconst F (pc := 28) 1 dX3_keepLess_28 (by decide) ?_
    refine k_lsub F (pc := 29) dX3_keepLess_29 ?_
    refine k_callV F (pc := 30) (C := RX0) (T := TX0) (N := 3) (ci := 0) [.int (nI a), .long ((hf b) - 1)] [] 2 (wX0 E (h 10) (h 11) (h 12) fs lf hf) [cObj (h 0) 3 [.ref (h 1), .int (nI n), .int (bI sc), .int (nI rt), .ref (h 2), .ref (h 6), .ref (h 10), .ref (h 13)], cInt E (h 1) 96 cd, cObj (h 2) 2 [.ref (h 3), .ref (h 4), .ref (h 5)], cBoo E (h 3) 24 on, cLng E (h 4) 96 lo, cLng E (h 5) 96 hi, cObj (h 6) 2 [.ref (h 7), .ref (h 8), .ref (h 9)], cBoo E (h 7) 24 son, cLng E (h 8) 96 slo, cLng E (h 9) 96 shi, cObj (h 13) 1 [.int (bI em), .long le, .long gr]] [10, 11, 12] [0, 1, 2, 3, 4, 5, 6, 7, 8, 9, 13] (m_X0_lowerHigh l E (h 10) (h 11) (h 12) fs lf hf a ((hf b) - 1) (by omega)) dX3_keepLess_30 gX3_keepLess_X0_lowerHigh rfl (by decide +kernel) rfl ⟨rfl, rfl⟩ (by decide) rfl (Nat.le_of_ble_eq_true rfl) (by decide) rfl rfl rfl rfl (by decide) (by decide) (by decide) ?_
    rintro v_5 w_6 ⟨fs1_4, rfl, rfl, h1⟩
    refine k_perm (wX3 E h cd n sc rt on lo hi son slo shi fs1_4 lf (vp_updL hf a (mn (hf a) ((hf b) - 1))) em le gr) [0, 1, 2, 3, 4, 5, 6, 7, 8, 9, 11, 12, 13, 10] (by decide) rfl ?_
    show kK g (wX3 E h cd n sc rt on lo hi son slo shi fs1_4 lf (vp_updL hf a (mn (hf a) ((hf b) - 1))) em le gr) [(0, .ref (h 0)), (1, .int (nI a)), (2, .int (nI b))] 0 0 33 []
    refine k_aload_n F (pc := 33) 0 rfl dX3_keepLess_33 rfl ?_
    refine k_get F (pc := 34) (ref := RX3) (C := RX3) (T := TX3) (N := 8) (ci := 3) 0 6 dX3_keepLess_34 zin_X3_keepLess_X3 rfl rfl (by decide) zm_X3_keepLess_f37 rfl rfl ?_
    refine k_iload_n F (pc := 37) 2 rfl dX3_keepLess_37 rfl ?_
    refine k_aload_n F (pc := 38) 0 rfl dX3_keepLess_38 rfl ?_
    refine k_get F (pc := 39) (ref := RX3) (C := RX3) (T := TX3) (N := 8) (ci := 3) 0 6 dX3_keepLess_39 zin_X3_keepLess_X3 rfl rfl (by decide) zm_X3_keepLess_f37 rfl rfl ?_
    refine k_iload_n F (pc := 42) 1 rfl dX3_keepLess_42 rfl ?_
    refine k_callV F (pc := 43) (C := RX0) (T := TX0) (N := 3) (ci := 0) [.int (nI a)] [.int (nI b), .ref (h 10)] 1 (wX0 E (h 10) (h 11) (h 12) fs1_4 lf (vp_updL hf a (mn (hf a) ((hf b) - 1)))) [cObj (h 0) 3 [.ref (h 1), .int (nI n), .int (bI sc), .int (nI rt), .ref (h 2), .ref (h 6), .ref (h 10), .ref (h 13)], cInt E (h 1) 96 cd, cObj (h 2) 2 [.ref (h 3), .ref (h 4), .ref (h 5)], cBoo E (h 3) 24 on, cLng E (h 4) 96 lo, cLng E (h 5) 96 hi, cObj (h 6) 2 [.ref (h 7), .ref (h 8), .ref (h 9)], cBoo E (h 7) 24 son, cLng E (h 8) 96 slo, cLng E (h 9) 96 shi, cObj (h 13) 1 [.int (bI em), .long le, .long gr]] [10, 11, 12] [0, 1, 2, 3, 4, 5, 6, 7, 8, 9, 13] (m_X0_lowOf l E (h 10) (h 11) (h 12) fs1_4 lf (vp_updL hf a (mn (hf a) ((hf b) - 1))) a (by omega)) dX3_keepLess_43 gX3_keepLess_X0_lowOf rfl (by decide +kernel) rfl ⟨rfl, rfl⟩ (by decide) rfl (Nat.le_of_ble_eq_true rfl) (by decide) rfl rfl rfl rfl (by decide) (by decide) (by decide) ?_
    rintro v_7 w_8 ⟨rfl, rfl⟩
    refine k_perm (wX3 E h cd n sc rt on lo hi son slo shi fs1_4 lf (vp_updL hf a (mn (hf a) ((hf b) - 1))) em le gr) [0, 1, 2, 3, 4, 5, 6, 7, 8, 9, 11, 12, 13, 10] (by decide) rfl ?_
    show kK g (wX3 E h cd n sc rt on lo hi son slo shi fs1_4 lf (vp_updL hf a (mn (hf a) ((hf b) - 1))) em le gr) [(0, .ref (h 0)), (1, .int (nI a)), (2, .int (nI b))] 0 0 46 [.long (lf a), .int (nI b), .ref (h 10)]
    refine k_lconst F (pc := 46) 1 dX3_keepLess_46 (by decide) ?_
    refine k_ladd F (pc := 47) dX3_keepLess_47 ?_
    refine k_callV F (pc := 48) (C := RX0) (T := TX0) (N := 3) (ci := 0) [.int (nI b), .long ((lf a) + 1)] [] 2 (wX0 E (h 10) (h 11) (h 12) fs1_4 lf (vp_updL hf a (mn (hf a) ((hf b) - 1)))) [cObj (h 0) 3 [.ref (h 1), .int (nI n), .int (bI sc), .int (nI rt), .ref (h 2), .ref (h 6), .ref (h 10), .ref (h 13)], cInt E (h 1) 96 cd, cObj (h 2) 2 [.ref (h 3), .ref (h 4), .ref (h 5)], cBoo E (h 3) 24 on, cLng E (h 4) 96 lo, cLng E (h 5) 96 hi, cObj (h 6) 2 [.ref (h 7), .ref (h 8), .ref (h 9)], cBoo E (h 7) 24 son, cLng E (h 8) 96 slo, cLng E (h 9) 96 shi, cObj (h 13) 1 [.int (bI em), .long le, .long gr]] [10, 11, 12] [0, 1, 2, 3, 4, 5, 6, 7, 8, 9, 13] (m_X0_raiseLow l E (h 10) (h 11) (h 12) fs1_4 lf (vp_updL hf a (mn (hf a) ((hf b) - 1))) b ((lf a) + 1) (by omega)) dX3_keepLess_48 gX3_keepLess_X0_raiseLow rfl (by decide +kernel) rfl ⟨rfl, rfl⟩ (by decide) rfl (Nat.le_of_ble_eq_true rfl) (by decide) rfl rfl rfl rfl (by decide) (by decide) (by decide) ?_
    rintro v_10 w_11 ⟨fs1_9, rfl, rfl, h2⟩
    refine k_perm (wX3 E h cd n sc rt on lo hi son slo shi fs1_9 (vp_updL lf b (mx (lf b) ((lf a) + 1))) (vp_updL hf a (mn (hf a) ((hf b) - 1))) em le gr) [0, 1, 2, 3, 4, 5, 6, 7, 8, 9, 11, 12, 13, 10] (by decide) rfl ?_
    show kK g (wX3 E h cd n sc rt on lo hi son slo shi fs1_9 (vp_updL lf b (mx (lf b) ((lf a) + 1))) (vp_updL hf a (mn (hf a) ((hf b) - 1))) em le gr) [(0, .ref (h 0)), (1, .int (nI a)), (2, .int (nI b))] 0 0 51 []
    refine k_vret F Rr (pc := 51) dX3_keepLess_51 ⟨fs1_9, (vp_updL lf b (mx (lf b) ((lf a) + 1))), (vp_updL hf a (mn (hf a) ((hf b) - 1))), rfl, rfl, ?_⟩
    intro X hX
    first
    | (rw [if_pos (show a = b by omega)]; exact frep_none)
    | (rw [if_neg (show ¬ a = b by omega)]; exact keepL_fin ha hb (by omega) h1 h2 X hX)
  · skip
    refine k_aload_n F (pc := 5) 0 rfl dX3_keepLess_5 rfl ?_
    refine k_get F (pc := 6) (ref := RX3) (C := RX3) (T := TX3) (N := 8) (ci := 3) 0 6 dX3_keepLess_6 zin_X3_keepLess_X3 rfl rfl (by decide) zm_X3_keepLess_f37 rfl rfl ?_
    refine k_callV F (pc := 9) (C := RX0) (T := TX0) (N := 3) (ci := 0) [] [] 0 (wX0 E (h 10) (h 11) (h 12) fs lf hf) [cObj (h 0) 3 [.ref (h 1), .int (nI n), .int (bI sc), .int (nI rt), .ref (h 2), .ref (h 6), .ref (h 10), .ref (h 13)], cInt E (h 1) 96 cd, cObj (h 2) 2 [.ref (h 3), .ref (h 4), .ref (h 5)], cBoo E (h 3) 24 on, cLng E (h 4) 96 lo, cLng E (h 5) 96 hi, cObj (h 6) 2 [.ref (h 7), .ref (h 8), .ref (h 9)], cBoo E (h 7) 24 son, cLng E (h 8) 96 slo, cLng E (h 9) 96 shi, cObj (h 13) 1 [.int (bI em), .long le, .long gr]] [10, 11, 12] [0, 1, 2, 3, 4, 5, 6, 7, 8, 9, 13] (m_X0_stop l E (h 10) (h 11) (h 12) fs lf hf) dX3_keepLess_9 gX3_keepLess_X0_stop rfl (by decide +kernel) rfl ⟨rfl, rfl⟩ (by decide) rfl (Nat.le_of_ble_eq_true rfl) (by decide) rfl rfl rfl rfl (by decide) (by decide) (by decide) ?_
    rintro v_12 w_13 ⟨rfl, rfl⟩
    refine k_perm (wX3 E h cd n sc rt on lo hi son slo shi false lf hf em le gr) [0, 1, 2, 3, 4, 5, 6, 7, 8, 9, 11, 12, 13, 10] (by decide) rfl ?_
    show kK g (wX3 E h cd n sc rt on lo hi son slo shi false lf hf em le gr) [(0, .ref (h 0)), (1, .int (nI a)), (2, .int (nI b))] 0 0 12 []
    refine k_goto F (pc := 12) 51 dX3_keepLess_12 (by decide) ?_
    refine k_vret F Rr (pc := 51) dX3_keepLess_51 ⟨false, lf, hf, rfl, rfl, ?_⟩
    intro X hX
    first
    | (rw [if_pos (show a = b by omega)]; exact frep_none)
    | (rw [if_neg (show ¬ a = b by omega)]; exact keepL_fin ha hb (by omega) h1 h2 X hX)
