theorem zm_X4_set_f36 : (Cond.fieldLink RX4 36 RX4 "tlo" "[J" : Cond) ∈ wsX4_set := by decide +kernel
theorem zin_X4_set_X4 : ∀ w ∈ u_ws RX4 TX4 15, w ∈ wsX4_set := by decide +kernel
theorem zm_X4_set_c66 : (Cond.constantLong RX4 66 (-2147483648) : Cond) ∈ wsX4_set := by decide +kernel
theorem zm_X4_set_f39 : (Cond.fieldLink RX4 39 RX4 "thi" "[J" : Cond) ∈ wsX4_set := by decide +kernel
theorem zm_X4_set_c68 : (Cond.constantLong RX4 68 (2147483647) : Cond) ∈ wsX4_set := by decide +kernel
theorem zm_X4_set_c64 : (Cond.constantLong RX4 64 (2147483648) : Cond) ∈ wsX4_set := by decide +kernel
set_option maxHeartbeats 4000000 in
set_option maxRecDepth 100000 in
theorem m_X4_set (l : Launch) (E : kE) (h : Nat → Nat) (cd : Nat → Int32) (n : Nat) (rt : Nat) (sc : Bool) (on : Nat → Bool) (lo : Nat → Int64) (hi : Nat → Int64) (non : Nat → Bool) (nlo : Nat → Int64) (nhi : Nat → Int64) (fl : Nat → Bool) (tlo : Nat → Int64) (thi : Nat → Int64) (le : Int64) (gr : Int64) (v : Nat) (x : Int64) (y : Int64) (hv : v < 8) : kC l yX4_set wsX4_set ({ frames := 0, cells := 0, slots := 0, locals := 0 } : Room) E [.ref (h 0), .int (nI v), .long x, .long y] (wX4 E h cd n rt sc on lo hi non nlo nhi fl tlo thi le gr) 0 0 (fun v_ w_ => ∃ (tlo1 : Nat → Int64) (thi1 : Nat → Int64), v_ = none ∧ w_ = (wX4 E h cd n rt sc on lo hi non nlo nhi fl tlo1 thi1 le gr) ∧ (setP tlo thi v x y tlo1 thi1)) := by
  refine kC.enter cX4_set 7 none [(0, .ref (h 0)), (1, .int (nI v)), (2, .long x), (4, .long y)] (by decide) rfl (Nat.le_of_ble_eq_true rfl) rfl ?_
  intro g F Rr
  have J26 : ∀ (sm : Bool), (sm = true ↔ x - x.toInt32.toInt64 = y - y.toInt32.toInt64) → kK g (wX4 E h cd n rt sc on lo hi non nlo nhi fl tlo thi le gr) [(0, .ref (h 0)), (1, .int (nI v)), (2, .long x), (4, .long y)] 0 0 26 [.int (bI sm)] := by
    intro sm hsm
    refine k_istore F (pc := 26) [(6, .int (bI sm)), (0, .ref (h 0)), (1, .int (nI v)), (2, .long x), (4, .long y)] dX4_set_26 (by decide) rfl ?_
    refine k_aload_n F (pc := 28) 1 rfl dX4_set_28 rfl ?_
    refine k_get F (pc := 29) (ref := RX4) (C := RX4) (T := TX4) (N := 15) (ci := 4) 0 11 dX4_set_29 zin_X4_set_X4 rfl rfl (by decide) zm_X4_set_f36 rfl rfl ?_
    refine k_iload_n F (pc := 32) 2 rfl dX4_set_32 rfl ?_
    refine k_iload F (pc := 33) 0 rfl dX4_set_33 ?_
    refine k_if_eqB F (pc := 35) 44 dX4_set_35 (by decide) (fun c_1 => ?_) (fun c_1 => ?_)
    · skip
      have hb_2 := k_ff hsm c_1
      refine k_ldc2 F (pc := 44) (-2147483648) dX4_set_44 zm_X4_set_c66 ?_
      refine k_last F (pc := 47) 9 (fun tlo_3 => (wX4 E h cd n rt sc on lo hi non nlo nhi fl tlo_3 thi le gr)) dX4_set_47 rfl (by omega) (by decide) (fun _ => rfl) (fun tlo_3 etlo_3 => ?_)
      refine k_aload_n F (pc := 48) 1 rfl dX4_set_48 rfl ?_
      refine k_get F (pc := 49) (ref := RX4) (C := RX4) (T := TX4) (N := 15) (ci := 4) 0 12 dX4_set_49 zin_X4_set_X4 rfl rfl (by decide) zm_X4_set_f39 rfl rfl ?_
      refine k_iload_n F (pc := 52) 2 rfl dX4_set_52 rfl ?_
      refine k_iload F (pc := 53) 0 rfl dX4_set_53 ?_
      refine k_if_eqB F (pc := 55) 65 dX4_set_55 (by decide) (fun c_4 => ?_) (fun c_4 => ?_)
      · skip
        have hb_5 := k_ff hsm c_4
        refine k_ldc2 F (pc := 65) (2147483647) dX4_set_65 zm_X4_set_c68 ?_
        refine k_last F (pc := 68) 10 (fun thi_6 => (wX4 E h cd n rt sc on lo hi non nlo nhi fl tlo_3 thi_6 le gr)) dX4_set_68 rfl (by omega) (by decide) (fun _ => rfl) (fun thi_6 ethi_6 => ?_)
        subst ethi_6
        subst etlo_3
        refine k_vret F Rr (pc := 69) dX4_set_69 ⟨_, _, rfl, rfl, ?_⟩
        first
        | exact ⟨fun _ => ⟨rfl, rfl⟩, fun h => absurd (by assumption) h⟩
        | exact ⟨fun h => absurd h (by assumption), fun _ => ⟨rfl, rfl⟩⟩
      · skip
        exact absurd (c_1.symm.trans c_4) (by decide)
    · skip
      have hb_7 := hsm.mp c_1
      refine k_lload_n F (pc := 38) 3 rfl dX4_set_38 rfl ?_
      refine k_l2i F (pc := 39) (x.toInt32) dX4_set_39 rfl ?_
      refine k_i2l F (pc := 40) (x.toInt32.toInt64) dX4_set_40 rfl ?_
      refine k_goto F (pc := 41) 47 dX4_set_41 (by decide) ?_
      refine k_last F (pc := 47) 9 (fun tlo_8 => (wX4 E h cd n rt sc on lo hi non nlo nhi fl tlo_8 thi le gr)) dX4_set_47 rfl (by omega) (by decide) (fun _ => rfl) (fun tlo_8 etlo_8 => ?_)
      refine k_aload_n F (pc := 48) 1 rfl dX4_set_48 rfl ?_
      refine k_get F (pc := 49) (ref := RX4) (C := RX4) (T := TX4) (N := 15) (ci := 4) 0 12 dX4_set_49 zin_X4_set_X4 rfl rfl (by decide) zm_X4_set_f39 rfl rfl ?_
      refine k_iload_n F (pc := 52) 2 rfl dX4_set_52 rfl ?_
      refine k_iload F (pc := 53) 0 rfl dX4_set_53 ?_
      refine k_if_eqB F (pc := 55) 65 dX4_set_55 (by decide) (fun c_9 => ?_) (fun c_9 => ?_)
      · skip
        exact absurd (c_1.symm.trans c_9) (by decide)
      · skip
        have hb_10 := hsm.mp c_9
        refine k_lload F (pc := 58) 4 rfl dX4_set_58 ?_
        refine k_l2i F (pc := 60) (y.toInt32) dX4_set_60 rfl ?_
        refine k_i2l F (pc := 61) (y.toInt32.toInt64) dX4_set_61 rfl ?_
        refine k_goto F (pc := 62) 68 dX4_set_62 (by decide) ?_
        refine k_last F (pc := 68) 10 (fun thi_11 => (wX4 E h cd n rt sc on lo hi non nlo nhi fl tlo_8 thi_11 le gr)) dX4_set_68 rfl (by omega) (by decide) (fun _ => rfl) (fun thi_11 ethi_11 => ?_)
        subst ethi_11
        subst etlo_8
        refine k_vret F Rr (pc := 69) dX4_set_69 ⟨_, _, rfl, rfl, ?_⟩
        first
        | exact ⟨fun _ => ⟨rfl, rfl⟩, fun h => absurd (by assumption) h⟩
        | exact ⟨fun h => absurd h (by assumption), fun _ => ⟨rfl, rfl⟩⟩
  refine k_lload_n F (pc := 0) 2 rfl dX4_set_0 rfl ?_
  refine k_ldc2 F (pc := 1) (2147483648) dX4_set_1 zm_X4_set_c64 ?_
  refine k_ladd F (pc := 4) dX4_set_4 ?_
  refine k_bipush F (pc := 5) ((nI 32)) dX4_set_5 (by decide) ?_
  refine k_lshr F (pc := 7) ((x + 2147483648) >>> ((nI 32).toInt64 &&& 63)) dX4_set_7 rfl ?_
  refine k_lload F (pc := 8) 3 rfl dX4_set_8 ?_
  refine k_ldc2 F (pc := 10) (2147483648) dX4_set_10 zm_X4_set_c64 ?_
  refine k_ladd F (pc := 13) dX4_set_13 ?_
  refine k_bipush F (pc := 14) ((nI 32)) dX4_set_14 (by decide) ?_
  refine k_lshr F (pc := 16) ((y + 2147483648) >>> ((nI 32).toInt64 &&& 63)) dX4_set_16 rfl ?_
  refine k_lcmp_ne F (pc := 17) 25 dX4_set_17 dX4_set_18 (by decide) (fun c_12 => ?_) (fun c_12 => ?_)
  · skip
    refine k_iconst F (pc := 25) ((nI 0)) dX4_set_25 (by decide) ?_
    refine k_lv [(0, .ref (h 0)), (1, .int (nI v)), (2, .long x), (4, .long y)] [0, 1, 2, 3] rfl ?_
    exact J26 false (by first | exact ⟨fun _ => same_iff.mp (by assumption), fun _ => rfl⟩ | exact ⟨fun h => absurd h (by decide), fun h => absurd (same_iff.mpr h) (by assumption)⟩)
  · skip
    refine k_iconst F (pc := 21) ((nI 1)) dX4_set_21 (by decide) ?_
    refine k_goto F (pc := 22) 26 dX4_set_22 (by decide) ?_
    refine k_lv [(0, .ref (h 0)), (1, .int (nI v)), (2, .long x), (4, .long y)] [0, 1, 2, 3] rfl ?_
    exact J26 true (by first | exact ⟨fun _ => same_iff.mp (by assumption), fun _ => rfl⟩ | exact ⟨fun h => absurd h (by decide), fun h => absurd (same_iff.mpr h) (by assumption)⟩)
theorem zm_X4_meet_f70 : (Cond.fieldLink RX4 70 RX4 "least" "J" : Cond) ∈ wsX4_meet := by decide +kernel
theorem zin_X4_meet_X4 : ∀ w ∈ u_ws RX4 TX4 15, w ∈ wsX4_meet := by decide +kernel
theorem zm_X4_meet_f74 : (Cond.fieldLink RX4 74 RX4 "greatest" "J" : Cond) ∈ wsX4_meet := by decide +kernel
set_option maxHeartbeats 4000000 in
set_option maxRecDepth 100000 in
theorem m_X4_meet (l : Launch) (E : kE) (h : Nat → Nat) (cd : Nat → Int32) (n : Nat) (rt : Nat) (sc : Bool) (on : Nat → Bool) (lo : Nat → Int64) (hi : Nat → Int64) (non : Nat → Bool) (nlo : Nat → Int64) (nhi : Nat → Int64) (fl : Nat → Bool) (tlo : Nat → Int64) (thi : Nat → Int64) (le : Int64) (gr : Int64) (o : Int32) (x : Int64) (y : Int64) (hy : o.toInt = 3 ∨ o.toInt = 4 ∨ o.toInt = 5 ∨ ¬ y = 0) : kC l yX4_meet wsX4_meet ({ frames := 0, cells := 0, slots := 0, locals := 0 } : Room) E [.ref (h 0), .int o, .long x, .long y] (wX4 E h cd n rt sc on lo hi non nlo nhi fl tlo thi le gr) 0 0 (fun v_ w_ => ∃ (le1 : Int64) (gr1 : Int64), v_ = none ∧ w_ = (wX4 E h cd n rt sc on lo hi non nlo nhi fl tlo thi le1 gr1) ∧ (∀ rs, LRep le gr rs → LRep le1 gr1 (tk (ex o.toInt x y) rs))) := by
  refine kC.enter cX4_meet 8 none [(0, .ref (h 0)), (1, .int o), (2, .long x), (4, .long y)] (by decide) rfl (Nat.le_of_ble_eq_true rfl) rfl ?_
  intro g F Rr
  have J40 : ∀ (r : Int64), (r = ex o.toInt x y) → kK g (wX4 E h cd n rt sc on lo hi non nlo nhi fl tlo thi le gr) [(0, .ref (h 0)), (1, .int o), (2, .long x), (4, .long y)] 0 0 40 [.long r] := by
    intro r hr
    refine k_lstore F (pc := 40) [(6, .long r), (0, .ref (h 0)), (1, .int o), (2, .long x), (4, .long y)] dX4_meet_40 (by decide) rfl ?_
    refine k_lload F (pc := 42) 0 rfl dX4_meet_42 ?_
    refine k_aload_n F (pc := 44) 1 rfl dX4_meet_44 rfl ?_
    refine k_get F (pc := 45) (ref := RX4) (C := RX4) (T := TX4) (N := 15) (ci := 4) 0 13 dX4_meet_45 zin_X4_meet_X4 rfl rfl (by decide) zm_X4_meet_f70 rfl rfl ?_
    refine k_lcmp_ge F (pc := 48) 58 dX4_meet_48 dX4_meet_49 (by decide) (fun c_1 => ?_) (fun c_1 => ?_)
    · skip
      refine k_lload F (pc := 58) 0 rfl dX4_meet_58 ?_
      refine k_aload_n F (pc := 60) 1 rfl dX4_meet_60 rfl ?_
      refine k_get F (pc := 61) (ref := RX4) (C := RX4) (T := TX4) (N := 15) (ci := 4) 0 14 dX4_meet_61 zin_X4_meet_X4 rfl rfl (by decide) zm_X4_meet_f74 rfl rfl ?_
      refine k_lcmp_le F (pc := 64) 74 dX4_meet_64 dX4_meet_65 (by decide) (fun c_2 => ?_) (fun c_2 => ?_)
      · skip
        refine k_vret F Rr (pc := 74) dX4_meet_74 ⟨le, gr, rfl, rfl, ?_⟩
        rw [← hr]
        exact meet_rep (by first | exact (if_pos (by assumption)).symm | exact (if_neg (by assumption)).symm) (by first | exact (if_pos (by assumption)).symm | exact (if_neg (by assumption)).symm)
      · skip
        refine k_aload_n F (pc := 68) 1 rfl dX4_meet_68 rfl ?_
        refine k_lload F (pc := 69) 0 rfl dX4_meet_69 ?_
        refine k_put F (pc := 71) (ref := RX4) (C := RX4) (T := TX4) (N := 15) (ci := 4) (ty := .long) (v := .long r) tyX4 0 14 (wX4 E h cd n rt sc on lo hi non nlo nhi fl tlo thi le r) dX4_meet_71 zin_X4_meet_X4 tyX4_ok nmX4 rfl rfl (by decide) zm_X4_meet_f74 rfl rfl (by decide +kernel) rfl rfl (Nat.le_of_ble_eq_true rfl) rfl ?_
        refine k_vret F Rr (pc := 74) dX4_meet_74 ⟨le, r, rfl, rfl, ?_⟩
        rw [← hr]
        exact meet_rep (by first | exact (if_pos (by assumption)).symm | exact (if_neg (by assumption)).symm) (by first | exact (if_pos (by assumption)).symm | exact (if_neg (by assumption)).symm)
    · skip
      refine k_aload_n F (pc := 52) 1 rfl dX4_meet_52 rfl ?_
      refine k_lload F (pc := 53) 0 rfl dX4_meet_53 ?_
      refine k_put F (pc := 55) (ref := RX4) (C := RX4) (T := TX4) (N := 15) (ci := 4) (ty := .long) (v := .long r) tyX4 0 13 (wX4 E h cd n rt sc on lo hi non nlo nhi fl tlo thi r gr) dX4_meet_55 zin_X4_meet_X4 tyX4_ok nmX4 rfl rfl (by decide) zm_X4_meet_f70 rfl rfl (by decide +kernel) rfl rfl (Nat.le_of_ble_eq_true rfl) rfl ?_
      refine k_lload F (pc := 58) 0 rfl dX4_meet_58 ?_
      refine k_aload_n F (pc := 60) 1 rfl dX4_meet_60 rfl ?_
      refine k_get F (pc := 61) (ref := RX4) (C := RX4) (T := TX4) (N := 15) (ci := 4) 0 14 dX4_meet_61 zin_X4_meet_X4 rfl rfl (by decide) zm_X4_meet_f74 rfl rfl ?_
      refine k_lcmp_le F (pc := 64) 74 dX4_meet_64 dX4_meet_65 (by decide) (fun c_3 => ?_) (fun c_3 => ?_)
      · skip
        refine k_vret F Rr (pc := 74) dX4_meet_74 ⟨r, gr, rfl, rfl, ?_⟩
        rw [← hr]
        exact meet_rep (by first | exact (if_pos (by assumption)).symm | exact (if_neg (by assumption)).symm) (by first | exact (if_pos (by assumption)).symm | exact (if_neg (by assumption)).symm)
      · skip
        refine k_aload_n F (pc := 68) 1 rfl dX4_meet_68 rfl ?_
        refine k_lload F (pc := 69) 0 rfl dX4_meet_69 ?_
        refine k_put F (pc := 71) (ref := RX4) (C := RX4) (T := TX4) (N := 15) (ci := 4) (ty := .long) (v := .long r) tyX4 0 14 (wX4 E h cd n rt sc on lo hi non nlo nhi fl tlo thi r r) dX4_meet_71 zin_X4_meet_X4 tyX4_ok nmX4 rfl rfl (by decide) zm_X4_meet_f74 rfl rfl (by decide +kernel) rfl rfl (Nat.le_of_ble_eq_true rfl) rfl ?_
        refine k_vret F Rr (pc := 74) dX4_meet_74 ⟨r, r, rfl, rfl, ?_⟩
        rw [← hr]
        exact meet_rep (by first | exact (if_pos (by assumption)).symm | exact (if_neg (by assumption)).symm) (by first | exact (if_pos (by assumption)).symm | exact (if_neg (by assumption)).symm)
  refine k_iload_n F (pc := 0) 1 rfl dX4_meet_0 rfl ?_
  refine k_iconst F (pc := 1) ((nI 3)) dX4_meet_1 (by decide) ?_
  refine k_icmp_ne F (pc := 2) 12 dX4_meet_2 (by decide) rfl (show (nI 3 : Int32).toInt = 3 by decide) (fun c_4 => ?_) (fun c_4 => ?_)
  · skip
    refine k_iload_n F (pc := 12) 1 rfl dX4_meet_12 rfl ?_
    refine k_iconst F (pc := 13) ((nI 4)) dX4_meet_13 (by decide) ?_
    refine k_icmp_ne F (pc := 14) 24 dX4_meet_14 (by decide) rfl (show (nI 4 : Int32).toInt = 4 by decide) (fun c_5 => ?_) (fun c_5 => ?_)
    · skip
      refine k_iload_n F (pc := 24) 1 rfl dX4_meet_24 rfl ?_
      refine k_iconst F (pc := 25) ((nI 5)) dX4_meet_25 (by decide) ?_
      refine k_icmp_ne F (pc := 26) 36 dX4_meet_26 (by decide) rfl (show (nI 5 : Int32).toInt = 5 by decide) (fun c_6 => ?_) (fun c_6 => ?_)
      · skip
        refine k_lload_n F (pc := 36) 2 rfl dX4_meet_36 rfl ?_
        refine k_lload F (pc := 37) 3 rfl dX4_meet_37 ?_
        refine k_ldiv F (pc := 39) dX4_meet_39 (by rcases hy with h | h | h | h; omega; omega; omega; exact h) ?_
        refine k_lv [(0, .ref (h 0)), (1, .int o), (2, .long x), (4, .long y)] [0, 1, 2, 3] rfl ?_
        exact J40 (x / y) (by first | (rw [ex, if_pos (by assumption)]; done) | (rw [ex, if_neg (by omega), if_pos (by assumption)]; done) | (rw [ex, if_neg (by omega), if_neg (by omega), if_pos (by assumption)]; done) | rw [ex, if_neg (by omega), if_neg (by omega), if_neg (by omega)])
      · skip
        refine k_lload_n F (pc := 29) 2 rfl dX4_meet_29 rfl ?_
        refine k_lload F (pc := 30) 3 rfl dX4_meet_30 ?_
        refine k_lmul F (pc := 32) dX4_meet_32 ?_
        refine k_goto F (pc := 33) 40 dX4_meet_33 (by decide) ?_
        refine k_lv [(0, .ref (h 0)), (1, .int o), (2, .long x), (4, .long y)] [0, 1, 2, 3] rfl ?_
        exact J40 (x * y) (by first | (rw [ex, if_pos (by assumption)]; done) | (rw [ex, if_neg (by omega), if_pos (by assumption)]; done) | (rw [ex, if_neg (by omega), if_neg (by omega), if_pos (by assumption)]; done) | rw [ex, if_neg (by omega), if_neg (by omega), if_neg (by omega)])
    · skip
      refine k_lload_n F (pc := 17) 2 rfl dX4_meet_17 rfl ?_
      refine k_lload F (pc := 18) 3 rfl dX4_meet_18 ?_
      refine k_lsub F (pc := 20) dX4_meet_20 ?_
      refine k_goto F (pc := 21) 40 dX4_meet_21 (by decide) ?_
      refine k_lv [(0, .ref (h 0)), (1, .int o), (2, .long x), (4, .long y)] [0, 1, 2, 3] rfl ?_
      exact J40 (x - y) (by first | (rw [ex, if_pos (by assumption)]; done) | (rw [ex, if_neg (by omega), if_pos (by assumption)]; done) | (rw [ex, if_neg (by omega), if_neg (by omega), if_pos (by assumption)]; done) | rw [ex, if_neg (by omega), if_neg (by omega), if_neg (by omega)])
  · skip
    refine k_lload_n F (pc := 5) 2 rfl dX4_meet_5 rfl ?_
    refine k_lload F (pc := 6) 3 rfl dX4_meet_6 ?_
    refine k_ladd F (pc := 8) dX4_meet_8 ?_
    refine k_goto F (pc := 9) 40 dX4_meet_9 (by decide) ?_
    refine k_lv [(0, .ref (h 0)), (1, .int o), (2, .long x), (4, .long y)] [0, 1, 2, 3] rfl ?_
    exact J40 (x + y) (by first | (rw [ex, if_pos (by assumption)]; done) | (rw [ex, if_neg (by omega), if_pos (by assumption)]; done) | (rw [ex, if_neg (by omega), if_neg (by omega), if_pos (by assumption)]; done) | rw [ex, if_neg (by omega), if_neg (by omega), if_neg (by omega)])
set_option maxHeartbeats 4000000 in
set_option maxRecDepth 100000 in
theorem m_X4_corners (l : Launch) (E : kE) (h : Nat → Nat) (cd : Nat → Int32) (n : Nat) (rt : Nat) (sc : Bool) (on : Nat → Bool) (lo : Nat → Int64) (hi : Nat → Int64) (non : Nat → Bool) (nlo : Nat → Int64) (nhi : Nat → Int64) (fl : Nat → Bool) (tlo : Nat → Int64) (thi : Nat → Int64) (le : Int64) (gr : Int64) (o : Int32) (x : Int64) (y : Int64) (f : Int64) (t : Int64) (hy : o.toInt = 3 ∨ o.toInt = 4 ∨ o.toInt = 5 ∨ (¬ f = 0 ∧ ¬ t = 0)) : kC l yX4_corners wsX4_corners ({ frames := 1, cells := 0, slots := 0, locals := 27 } : Room) E [.ref (h 0), .int o, .long x, .long y, .long f, .long t] (wX4 E h cd n rt sc on lo hi non nlo nhi fl tlo thi le gr) 0 0 (fun v_ w_ => ∃ (le1 : Int64) (gr1 : Int64), v_ = none ∧ w_ = (wX4 E h cd n rt sc on lo hi non nlo nhi fl tlo thi le1 gr1) ∧ (∀ rs, LRep le gr rs → LRep le1 gr1 (tk4 o.toInt x y f t rs))) := by
  refine kC.enter cX4_corners 10 none [(0, .ref (h 0)), (1, .int o), (2, .long x), (4, .long y), (6, .long f), (8, .long t)] (by decide) rfl (Nat.le_of_ble_eq_true rfl) rfl ?_
  intro g F Rr
  refine k_aload_n F (pc := 0) 0 rfl dX4_corners_0 rfl ?_
  refine k_iload_n F (pc := 1) 1 rfl dX4_corners_1 rfl ?_
  refine k_lload_n F (pc := 2) 2 rfl dX4_corners_2 rfl ?_
  refine k_lload F (pc := 3) 4 rfl dX4_corners_3 ?_
  refine k_callV F (pc := 5) (C := RX4) (T := TX4) (N := 15) (ci := 4) [.int o, .long x, .long f] [] 3 (wX4 E h cd n rt sc on lo hi non nlo nhi fl tlo thi le gr) [] [0, 1, 2, 3, 4, 5, 6, 7, 8, 9, 10] [] (m_X4_meet l E h cd n rt sc on lo hi non nlo nhi fl tlo thi le gr o x f (c4f hy)) dX4_corners_5 gX4_corners_X4_meet rfl (by decide +kernel) rfl ⟨rfl, rfl⟩ (by decide) rfl (Nat.le_of_ble_eq_true rfl) (by decide) rfl rfl rfl rfl (by decide) (by decide) (by decide) ?_
  rintro v_3 w_4 ⟨le1_1, gr1_2, rfl, rfl, h1⟩
  refine k_perm (wX4 E h cd n rt sc on lo hi non nlo nhi fl tlo thi le1_1 gr1_2) [0, 1, 2, 3, 4, 5, 6, 7, 8, 9, 10] (by decide) rfl ?_
  show kK g (wX4 E h cd n rt sc on lo hi non nlo nhi fl tlo thi le1_1 gr1_2) [(0, .ref (h 0)), (1, .int o), (2, .long x), (4, .long y), (6, .long f), (8, .long t)] 0 0 8 []
  refine k_aload_n F (pc := 8) 0 rfl dX4_corners_8 rfl ?_
  refine k_iload_n F (pc := 9) 1 rfl dX4_corners_9 rfl ?_
  refine k_lload_n F (pc := 10) 2 rfl dX4_corners_10 rfl ?_
  refine k_lload F (pc := 11) 5 rfl dX4_corners_11 ?_
  refine k_callV F (pc := 13) (C := RX4) (T := TX4) (N := 15) (ci := 4) [.int o, .long x, .long t] [] 3 (wX4 E h cd n rt sc on lo hi non nlo nhi fl tlo thi le1_1 gr1_2) [] [0, 1, 2, 3, 4, 5, 6, 7, 8, 9, 10] [] (m_X4_meet l E h cd n rt sc on lo hi non nlo nhi fl tlo thi le1_1 gr1_2 o x t (c4t hy)) dX4_corners_13 gX4_corners_X4_meet rfl (by decide +kernel) rfl ⟨rfl, rfl⟩ (by decide) rfl (Nat.le_of_ble_eq_true rfl) (by decide) rfl rfl rfl rfl (by decide) (by decide) (by decide) ?_
  rintro v_7 w_8 ⟨le1_5, gr1_6, rfl, rfl, h2⟩
  refine k_perm (wX4 E h cd n rt sc on lo hi non nlo nhi fl tlo thi le1_5 gr1_6) [0, 1, 2, 3, 4, 5, 6, 7, 8, 9, 10] (by decide) rfl ?_
  show kK g (wX4 E h cd n rt sc on lo hi non nlo nhi fl tlo thi le1_5 gr1_6) [(0, .ref (h 0)), (1, .int o), (2, .long x), (4, .long y), (6, .long f), (8, .long t)] 0 0 16 []
  refine k_aload_n F (pc := 16) 0 rfl dX4_corners_16 rfl ?_
  refine k_iload_n F (pc := 17) 1 rfl dX4_corners_17 rfl ?_
  refine k_lload F (pc := 18) 3 rfl dX4_corners_18 ?_
  refine k_lload F (pc := 20) 4 rfl dX4_corners_20 ?_
  refine k_callV F (pc := 22) (C := RX4) (T := TX4) (N := 15) (ci := 4) [.int o, .long y, .long f] [] 3 (wX4 E h cd n rt sc on lo hi non nlo nhi fl tlo thi le1_5 gr1_6) [] [0, 1, 2, 3, 4, 5, 6, 7, 8, 9, 10] [] (m_X4_meet l E h cd n rt sc on lo hi non nlo nhi fl tlo thi le1_5 gr1_6 o y f (c4f hy)) dX4_corners_22 gX4_corners_X4_meet rfl (by decide +kernel) rfl ⟨rfl, rfl⟩ (by decide) rfl (Nat.le_of_ble_eq_true rfl) (by decide) rfl rfl rfl rfl (by decide) (by decide) (by decide) ?_
  rintro v_11 w_12 ⟨le1_9, gr1_10, rfl, rfl, h3⟩
  refine k_perm (wX4 E h cd n rt sc on lo hi non nlo nhi fl tlo thi le1_9 gr1_10) [0, 1, 2, 3, 4, 5, 6, 7, 8, 9, 10] (by decide) rfl ?_
  show kK g (wX4 E h cd n rt sc on lo hi non nlo nhi fl tlo thi le1_9 gr1_10) [(0, .ref (h 0)), (1, .int o), (2, .long x), (4, .long y), (6, .long f), (8, .long t)] 0 0 25 []
  refine k_aload_n F (pc := 25) 0 rfl dX4_corners_25 rfl ?_
  refine k_iload_n F (pc := 26) 1 rfl dX4_corners_26 rfl ?_
  refine k_lload F (pc := 27) 3 rfl dX4_corners_27 ?_
  refine k_lload F (pc := 29) 5 rfl dX4_corners_29 ?_
  refine k_callV F (pc := 31) (C := RX4) (T := TX4) (N := 15) (ci := 4) [.int o, .long y, .long t] [] 3 (wX4 E h cd n rt sc on lo hi non nlo nhi fl tlo thi le1_9 gr1_10) [] [0, 1, 2, 3, 4, 5, 6, 7, 8, 9, 10] [] (m_X4_meet l E h cd n rt sc on lo hi non nlo nhi fl tlo thi le1_9 gr1_10 o y t (c4t hy)) dX4_corners_31 gX4_corners_X4_meet rfl (by decide +kernel) rfl ⟨rfl, rfl⟩ (by decide) rfl (Nat.le_of_ble_eq_true rfl) (by decide) rfl rfl rfl rfl (by decide) (by decide) (by decide) ?_
  rintro v_15 w_16 ⟨le1_13, gr1_14, rfl, rfl, h4⟩
  refine k_perm (wX4 E h cd n rt sc on lo hi non nlo nhi fl tlo thi le1_13 gr1_14) [0, 1, 2, 3, 4, 5, 6, 7, 8, 9, 10] (by decide) rfl ?_
  show kK g (wX4 E h cd n rt sc on lo hi non nlo nhi fl tlo thi le1_13 gr1_14) [(0, .ref (h 0)), (1, .int o), (2, .long x), (4, .long y), (6, .long f), (8, .long t)] 0 0 34 []
  refine k_vret F Rr (pc := 34) dX4_corners_34 ⟨le1_13, gr1_14, rfl, rfl, ?_⟩
  intro rs hrs
  exact h4 _ (h3 _ (h2 _ (h1 _ hrs)))
theorem zm_X4_calculate_f17 : (Cond.fieldLink RX4 17 RX4 "lo" "[J" : Cond) ∈ wsX4_calculate := by decide +kernel
theorem zin_X4_calculate_X4 : ∀ w ∈ u_ws RX4 TX4 15, w ∈ wsX4_calculate := by decide +kernel
theorem zm_X4_calculate_f21 : (Cond.fieldLink RX4 21 RX4 "hi" "[J" : Cond) ∈ wsX4_calculate := by decide +kernel
theorem zm_X4_calculate_c81 : (Cond.constantLong RX4 81 (4611686018427387904) : Cond) ∈ wsX4_calculate := by decide +kernel
theorem zm_X4_calculate_f70 : (Cond.fieldLink RX4 70 RX4 "least" "J" : Cond) ∈ wsX4_calculate := by decide +kernel
theorem zm_X4_calculate_f74 : (Cond.fieldLink RX4 74 RX4 "greatest" "J" : Cond) ∈ wsX4_calculate := by decide +kernel
theorem zm_X4_calculate_f33 : (Cond.fieldLink RX4 33 RX4 "flows" "[Z" : Cond) ∈ wsX4_calculate := by decide +kernel
theorem zm_X4_calculate_c87 : (Cond.constantLong RX4 87 (-1) : Cond) ∈ wsX4_calculate := by decide +kernel
set_option maxHeartbeats 4000000 in
set_option maxRecDepth 100000 in
theorem m_X4_calculate (l : Launch) (E : kE) (h : Nat → Nat) (cd : Nat → Int32) (n : Nat) (rt : Nat) (sc : Bool) (on : Nat → Bool) (lo : Nat → Int64) (hi : Nat → Int64) (non : Nat → Bool) (nlo : Nat → Int64) (nhi : Nat → Int64) (fl : Nat → Bool) (tlo : Nat → Int64) (thi : Nat → Int64) (le : Int64) (gr : Int64) (o : Int32) (p : Nat) (a : Nat) (b : Nat) (c : Nat) (hp : p < 24) (ha : a < 4) (hb : b < 4) (hc : c < 4) (ho : 3 ≤ o.toInt ∧ o.toInt ≤ 6) (hle : (lo (4 * p + c)).toInt ≤ (hi (4 * p + c)).toInt) (hfl : fl 0 = true) : kC l yX4_calculate wsX4_calculate ({ frames := 2, cells := 0, slots := 0, locals := 56 } : Room) E [.ref (h 0), .int o, .int (nI p), .int (nI a), .int (nI b), .int (nI c)] (wX4 E h cd n rt sc on lo hi non nlo nhi fl tlo thi le gr) 0 0 (fun v_ w_ => ∃ (fl1 : Nat → Bool) (tlo1 : Nat → Int64) (thi1 : Nat → Int64) (le1 : Int64) (gr1 : Int64), v_ = none ∧ w_ = (wX4 E h cd n rt sc on lo hi non nlo nhi fl1 tlo1 thi1 le1 gr1) ∧ (calcP fl fl1 tlo thi tlo1 thi1 a (calcR o.toInt (lo (4 * p + b)) (hi (4 * p + b)) (lo (4 * p + c)) (hi (4 * p + c))))) := by
  refine kC.enter cX4_calculate 14 none [(0, .ref (h 0)), (1, .int o), (2, .int (nI p)), (3, .int (nI a)), (4, .int (nI b)), (5, .int (nI c))] (by decide) rfl (Nat.le_of_ble_eq_true rfl) rfl ?_
  intro g F Rr
  refine k_aload_n F (pc := 0) 0 rfl dX4_calculate_0 rfl ?_
  refine k_get F (pc := 1) (ref := RX4) (C := RX4) (T := TX4) (N := 15) (ci := 4) 0 5 dX4_calculate_1 zin_X4_calculate_X4 rfl rfl (by decide) zm_X4_calculate_f17 rfl rfl ?_
  refine k_iconst F (pc := 4) ((nI 4)) dX4_calculate_4 (by decide) ?_
  refine k_iload_n F (pc := 5) 2 rfl dX4_calculate_5 rfl ?_
  refine k_imulN F (pc := 6) dX4_calculate_6 ?_
  refine k_iload F (pc := 7) 4 rfl dX4_calculate_7 ?_
  refine k_iaddN F (pc := 9) dX4_calculate_9 ?_
  refine k_lald F (pc := 10) 3 dX4_calculate_10 rfl (by omega) (by decide) ?_
  refine k_lstore F (pc := 11) [(6, .long (lo (4 * p + b))), (0, .ref (h 0)), (1, .int o), (2, .int (nI p)), (3, .int (nI a)), (4, .int (nI b)), (5, .int (nI c))] dX4_calculate_11 (by decide) rfl ?_
  refine k_aload_n F (pc := 13) 1 rfl dX4_calculate_13 rfl ?_
  refine k_get F (pc := 14) (ref := RX4) (C := RX4) (T := TX4) (N := 15) (ci := 4) 0 6 dX4_calculate_14 zin_X4_calculate_X4 rfl rfl (by decide) zm_X4_calculate_f21 rfl rfl ?_
  refine k_iconst F (pc := 17) ((nI 4)) dX4_calculate_17 (by decide) ?_
  refine k_iload_n F (pc := 18) 3 rfl dX4_calculate_18 rfl ?_
  refine k_imulN F (pc := 19) dX4_calculate_19 ?_
  refine k_iload F (pc := 20) 5 rfl dX4_calculate_20 ?_
  refine k_iaddN F (pc := 22) dX4_calculate_22 ?_
  refine k_lald F (pc := 23) 4 dX4_calculate_23 rfl (by omega) (by decide) ?_
  refine k_lstore F (pc := 24) [(8, .long (hi (4 * p + b))), (6, .long (lo (4 * p + b))), (0, .ref (h 0)), (1, .int o), (2, .int (nI p)), (3, .int (nI a)), (4, .int (nI b)), (5, .int (nI c))] dX4_calculate_24 (by decide) rfl ?_
  refine k_aload_n F (pc := 26) 2 rfl dX4_calculate_26 rfl ?_
  refine k_get F (pc := 27) (ref := RX4) (C := RX4) (T := TX4) (N := 15) (ci := 4) 0 5 dX4_calculate_27 zin_X4_calculate_X4 rfl rfl (by decide) zm_X4_calculate_f17 rfl rfl ?_
  refine k_iconst F (pc := 30) ((nI 4)) dX4_calculate_30 (by decide) ?_
  refine k_iload_n F (pc := 31) 4 rfl dX4_calculate_31 rfl ?_
  refine k_imulN F (pc := 32) dX4_calculate_32 ?_
  refine k_iload F (pc := 33) 7 rfl dX4_calculate_33 ?_
  refine k_iaddN F (pc := 35) dX4_calculate_35 ?_
  refine k_lald F (pc := 36) 3 dX4_calculate_36 rfl (by omega) (by decide) ?_
  refine k_lstore F (pc := 37) [(10, .long (lo (4 * p + c))), (8, .long (hi (4 * p + b))), (6, .long (lo (4 * p + b))), (0, .ref (h 0)), (1, .int o), (2, .int (nI p)), (3, .int (nI a)), (4, .int (nI b)), (5, .int (nI c))] dX4_calculate_37 (by decide) rfl ?_
  refine k_aload_n F (pc := 39) 3 rfl dX4_calculate_39 rfl ?_
  refine k_get F (pc := 40) (ref := RX4) (C := RX4) (T := TX4) (N := 15) (ci := 4) 0 6 dX4_calculate_40 zin_X4_calculate_X4 rfl rfl (by decide) zm_X4_calculate_f21 rfl rfl ?_
  refine k_iconst F (pc := 43) ((nI 4)) dX4_calculate_43 (by decide) ?_
  refine k_iload_n F (pc := 44) 5 rfl dX4_calculate_44 rfl ?_
  refine k_imulN F (pc := 45) dX4_calculate_45 ?_
  refine k_iload F (pc := 46) 8 rfl dX4_calculate_46 ?_
  refine k_iaddN F (pc := 48) dX4_calculate_48 ?_
  refine k_lald F (pc := 49) 4 dX4_calculate_49 rfl (by omega) (by decide) ?_
  refine k_lstore F (pc := 50) [(12, .long (hi (4 * p + c))), (10, .long (lo (4 * p + c))), (8, .long (hi (4 * p + b))), (6, .long (lo (4 * p + b))), (0, .ref (h 0)), (1, .int o), (2, .int (nI p)), (3, .int (nI a)), (4, .int (nI b)), (5, .int (nI c))] dX4_calculate_50 (by decide) rfl ?_
  refine k_aload_n F (pc := 52) 4 rfl dX4_calculate_52 rfl ?_
  refine k_ldc2 F (pc := 53) (4611686018427387904) dX4_calculate_53 zm_X4_calculate_c81 ?_
  refine k_put F (pc := 56) (ref := RX4) (C := RX4) (T := TX4) (N := 15) (ci := 4) (ty := .long) (v := .long 4611686018427387904) tyX4 0 13 (wX4 E h cd n rt sc on lo hi non nlo nhi fl tlo thi 4611686018427387904 gr) dX4_calculate_56 zin_X4_calculate_X4 tyX4_ok nmX4 rfl rfl (by decide) zm_X4_calculate_f70 rfl rfl (by decide +kernel) rfl rfl (Nat.le_of_ble_eq_true rfl) rfl ?_
  refine k_aload_n F (pc := 59) 4 rfl dX4_calculate_59 rfl ?_
  refine k_aload_n F (pc := 60) 4 rfl dX4_calculate_60 rfl ?_
  refine k_get F (pc := 61) (ref := RX4) (C := RX4) (T := TX4) (N := 15) (ci := 4) 0 13 dX4_calculate_61 zin_X4_calculate_X4 rfl rfl (by decide) zm_X4_calculate_f70 rfl rfl ?_
  refine k_aload_n F (pc := 64) 4 rfl dX4_calculate_64 rfl ?_
  refine k_get F (pc := 65) (ref := RX4) (C := RX4) (T := TX4) (N := 15) (ci := 4) 0 13 dX4_calculate_65 zin_X4_calculate_X4 rfl rfl (by decide) zm_X4_calculate_f70 rfl rfl ?_
  refine k_lconst F (pc := 68) 1 dX4_calculate_68 (by decide) ?_
  refine k_lsub F (pc := 69) dX4_calculate_69 ?_
  refine k_ladd F (pc := 70) dX4_calculate_70 ?_
  refine k_put F (pc := 71) (ref := RX4) (C := RX4) (T := TX4) (N := 15) (ci := 4) (ty := .long) (v := .long (4611686018427387904 + (4611686018427387904 - 1))) tyX4 0 13 (wX4 E h cd n rt sc on lo hi non nlo nhi fl tlo thi (4611686018427387904 + (4611686018427387904 - 1)) gr) dX4_calculate_71 zin_X4_calculate_X4 tyX4_ok nmX4 rfl rfl (by decide) zm_X4_calculate_f70 rfl rfl (by decide +kernel) rfl rfl (Nat.le_of_ble_eq_true rfl) rfl ?_
  refine k_aload_n F (pc := 74) 4 rfl dX4_calculate_74 rfl ?_
  refine k_aload_n F (pc := 75) 4 rfl dX4_calculate_75 rfl ?_
  refine k_get F (pc := 76) (ref := RX4) (C := RX4) (T := TX4) (N := 15) (ci := 4) 0 13 dX4_calculate_76 zin_X4_calculate_X4 rfl rfl (by decide) zm_X4_calculate_f70 rfl rfl ?_
  refine k_lneg F (pc := 79) dX4_calculate_79 ?_
  refine k_lconst F (pc := 80) 1 dX4_calculate_80 (by decide) ?_
  refine k_lsub F (pc := 81) dX4_calculate_81 ?_
  refine k_put F (pc := 82) (ref := RX4) (C := RX4) (T := TX4) (N := 15) (ci := 4) (ty := .long) (v := .long ((-(4611686018427387904 + (4611686018427387904 - 1))) - 1)) tyX4 0 14 (wX4 E h cd n rt sc on lo hi non nlo nhi fl tlo thi (4611686018427387904 + (4611686018427387904 - 1)) ((-(4611686018427387904 + (4611686018427387904 - 1))) - 1)) dX4_calculate_82 zin_X4_calculate_X4 tyX4_ok nmX4 rfl rfl (by decide) zm_X4_calculate_f74 rfl rfl (by decide +kernel) rfl rfl (Nat.le_of_ble_eq_true rfl) rfl ?_
  have hL0 : LRep (4611686018427387904 + (4611686018427387904 - 1)) ((-(4611686018427387904 + (4611686018427387904 - 1))) - 1) none := LRep_init
  have J192 : ∀ (fl2 : Nat → Bool) (le2 : Int64) (gr2 : Int64), (((calcR o.toInt (lo (4 * p + b)) (hi (4 * p + b)) (lo (4 * p + c)) (hi (4 * p + c))) = none → fl2 0 = false) ∧ (∀ r, (calcR o.toInt (lo (4 * p + b)) (hi (4 * p + b)) (lo (4 * p + c)) (hi (4 * p + c))) = some r → fl2 0 = true)) → (fl2 1 = fl 1) → (LRep le2 gr2 (calcR o.toInt (lo (4 * p + b)) (hi (4 * p + b)) (lo (4 * p + c)) (hi (4 * p + c)))) → kK g (wX4 E h cd n rt sc on lo hi non nlo nhi fl2 tlo thi le2 gr2) [(0, .ref (h 0)), (1, .int o), (2, .int (nI p)), (3, .int (nI a)), (4, .int (nI b)), (5, .int (nI c)), (6, .long (lo (4 * p + b))), (8, .long (hi (4 * p + b))), (10, .long (lo (4 * p + c))), (12, .long (hi (4 * p + c)))] 0 0 192 [] := by
    intro fl2 le2 gr2 hf1 hf2 hLR
    refine k_aload_n F (pc := 192) 0 rfl dX4_calculate_192 rfl ?_
    refine k_get F (pc := 193) (ref := RX4) (C := RX4) (T := TX4) (N := 15) (ci := 4) 0 10 dX4_calculate_193 zin_X4_calculate_X4 rfl rfl (by decide) zm_X4_calculate_f33 rfl rfl ?_
    refine k_iconst F (pc := 196) ((nI 0)) dX4_calculate_196 (by decide) ?_
    refine k_zald F (pc := 197) 8 dX4_calculate_197 rfl (by omega) (by decide) ?_
    refine k_if_eqB F (pc := 198) 214 dX4_calculate_198 (by decide) (fun c_1 => ?_) (fun c_1 => ?_)
    · skip
      refine k_vret F Rr (pc := 214) dX4_calculate_214 ⟨fl2, tlo, thi, le2, gr2, rfl, rfl, ?_⟩
      first
      | exact calc_fin1 hf1 hf2 (by assumption) hLR hset
      | exact calc_fin0 hf1 hf2 (by assumption)
    · skip
      refine k_aload_n F (pc := 201) 0 rfl dX4_calculate_201 rfl ?_
      refine k_iload_n F (pc := 202) 3 rfl dX4_calculate_202 rfl ?_
      refine k_aload_n F (pc := 203) 0 rfl dX4_calculate_203 rfl ?_
      refine k_get F (pc := 204) (ref := RX4) (C := RX4) (T := TX4) (N := 15) (ci := 4) 0 13 dX4_calculate_204 zin_X4_calculate_X4 rfl rfl (by decide) zm_X4_calculate_f70 rfl rfl ?_
      refine k_aload_n F (pc := 207) 0 rfl dX4_calculate_207 rfl ?_
      refine k_get F (pc := 208) (ref := RX4) (C := RX4) (T := TX4) (N := 15) (ci := 4) 0 14 dX4_calculate_208 zin_X4_calculate_X4 rfl rfl (by decide) zm_X4_calculate_f74 rfl rfl ?_
      refine k_callV F (pc := 211) (C := RX4) (T := TX4) (N := 15) (ci := 4) [.int (nI a), .long le2, .long gr2] [] 3 (wX4 E h cd n rt sc on lo hi non nlo nhi fl2 tlo thi le2 gr2) [] [0, 1, 2, 3, 4, 5, 6, 7, 8, 9, 10] [] (m_X4_set l E h cd n rt sc on lo hi non nlo nhi fl2 tlo thi le2 gr2 a le2 gr2 (by omega)) dX4_calculate_211 gX4_calculate_X4_set rfl (by decide +kernel) rfl ⟨rfl, rfl⟩ (by decide) rfl (Nat.le_of_ble_eq_true rfl) (by decide) rfl rfl rfl rfl (by decide) (by decide) (by decide) ?_
      rintro v_4 w_5 ⟨tlo1_2, thi1_3, rfl, rfl, hset⟩
      refine k_perm (wX4 E h cd n rt sc on lo hi non nlo nhi fl2 tlo1_2 thi1_3 le2 gr2) [0, 1, 2, 3, 4, 5, 6, 7, 8, 9, 10] (by decide) rfl ?_
      show kK g (wX4 E h cd n rt sc on lo hi non nlo nhi fl2 tlo1_2 thi1_3 le2 gr2) [(0, .ref (h 0)), (1, .int o), (2, .int (nI p)), (3, .int (nI a)), (4, .int (nI b)), (5, .int (nI c)), (6, .long (lo (4 * p + b))), (8, .long (hi (4 * p + b))), (10, .long (lo (4 * p + c))), (12, .long (hi (4 * p + c)))] 0 0 214 []
      refine k_vret F Rr (pc := 214) dX4_calculate_214 ⟨fl2, tlo1_2, thi1_3, le2, gr2, rfl, rfl, ?_⟩
      first
      | exact calc_fin1 hf1 hf2 (by assumption) hLR hset
      | exact calc_fin0 hf1 hf2 (by assumption)
  refine k_iload_n F (pc := 85) 5 rfl dX4_calculate_85 rfl ?_
  refine k_bipush F (pc := 86) ((nI 6)) dX4_calculate_86 (by decide) ?_
  refine k_icmp_eq F (pc := 88) 107 dX4_calculate_88 (by decide) rfl (show (nI 6 : Int32).toInt = 6 by decide) (fun c_6 => ?_) (fun c_6 => ?_)
  · skip
    have ho6 := c_6
    have J140 : ∀ (le2 : Int64) (gr2 : Int64), (LRep le2 gr2 (calc1 (lo (4 * p + b)) (hi (4 * p + b)) (lo (4 * p + c)) (hi (4 * p + c)))) → kK g (wX4 E h cd n rt sc on lo hi non nlo nhi fl tlo thi le2 gr2) [(0, .ref (h 0)), (1, .int o), (2, .int (nI p)), (3, .int (nI a)), (4, .int (nI b)), (5, .int (nI c)), (6, .long (lo (4 * p + b))), (8, .long (hi (4 * p + b))), (10, .long (lo (4 * p + c))), (12, .long (hi (4 * p + c)))] 0 0 140 [] := by
      intro le2 gr2 hL1
      have J171 : ∀ (le3 : Int64) (gr3 : Int64), (LRep le3 gr3 (calcR o.toInt (lo (4 * p + b)) (hi (4 * p + b)) (lo (4 * p + c)) (hi (4 * p + c)))) → kK g (wX4 E h cd n rt sc on lo hi non nlo nhi fl tlo thi le3 gr3) [(0, .ref (h 0)), (1, .int o), (2, .int (nI p)), (3, .int (nI a)), (4, .int (nI b)), (5, .int (nI c)), (6, .long (lo (4 * p + b))), (8, .long (hi (4 * p + b))), (10, .long (lo (4 * p + c))), (12, .long (hi (4 * p + c)))] 0 0 171 [] := by
        intro le3 gr3 hL2
        refine k_lload F (pc := 171) 8 rfl dX4_calculate_171 ?_
        refine k_lconst F (pc := 173) 0 dX4_calculate_173 (by decide) ?_
        refine k_lcmp_ne F (pc := 174) 192 dX4_calculate_174 dX4_calculate_175 (by decide) (fun c_7 => ?_) (fun c_7 => ?_)
        · skip
          refine k_lv [(0, .ref (h 0)), (1, .int o), (2, .int (nI p)), (3, .int (nI a)), (4, .int (nI b)), (5, .int (nI c)), (6, .long (lo (4 * p + b))), (8, .long (hi (4 * p + b))), (10, .long (lo (4 * p + c))), (12, .long (hi (4 * p + c)))] [0, 1, 2, 3, 4, 5, 6, 7, 8, 9] rfl ?_
          exact J192 fl le3 gr3 (by first | exact some_of_ne (calc_n6 (by assumption) _ _ _ _) hfl | exact some_of_ne (by rw [ho6]; exact fun h => absurd ((calc6_none hle).mp h).1 (by assumption)) hfl | exact some_of_ne (by rw [ho6]; exact fun h => absurd ((calc6_none hle).mp h).2 (by assumption)) hfl | exact none_of_eq (by rw [ho6]; exact (calc6_none hle).mpr ⟨by assumption, by assumption⟩) (by simp [*, upB])) (by first | rfl | simp [*, upB]) (by first | (rw [calcR, if_neg (by assumption)]; exact hco _ hL0) | exact hL2)
        · skip
          refine k_lload F (pc := 178) 9 rfl dX4_calculate_178 ?_
          refine k_lconst F (pc := 180) 0 dX4_calculate_180 (by decide) ?_
          refine k_lcmp_ne F (pc := 181) 192 dX4_calculate_181 dX4_calculate_182 (by decide) (fun c_8 => ?_) (fun c_8 => ?_)
          · skip
            refine k_lv [(0, .ref (h 0)), (1, .int o), (2, .int (nI p)), (3, .int (nI a)), (4, .int (nI b)), (5, .int (nI c)), (6, .long (lo (4 * p + b))), (8, .long (hi (4 * p + b))), (10, .long (lo (4 * p + c))), (12, .long (hi (4 * p + c)))] [0, 1, 2, 3, 4, 5, 6, 7, 8, 9] rfl ?_
            exact J192 fl le3 gr3 (by first | exact some_of_ne (calc_n6 (by assumption) _ _ _ _) hfl | exact some_of_ne (by rw [ho6]; exact fun h => absurd ((calc6_none hle).mp h).1 (by assumption)) hfl | exact some_of_ne (by rw [ho6]; exact fun h => absurd ((calc6_none hle).mp h).2 (by assumption)) hfl | exact none_of_eq (by rw [ho6]; exact (calc6_none hle).mpr ⟨by assumption, by assumption⟩) (by simp [*, upB])) (by first | rfl | simp [*, upB]) (by first | (rw [calcR, if_neg (by assumption)]; exact hco _ hL0) | exact hL2)
          · skip
            refine k_aload_n F (pc := 185) 0 rfl dX4_calculate_185 rfl ?_
            refine k_get F (pc := 186) (ref := RX4) (C := RX4) (T := TX4) (N := 15) (ci := 4) 0 10 dX4_calculate_186 zin_X4_calculate_X4 rfl rfl (by decide) zm_X4_calculate_f33 rfl rfl ?_
            refine k_iconst F (pc := 189) ((nI 0)) dX4_calculate_189 (by decide) ?_
            refine k_iconst F (pc := 190) ((nI 0)) dX4_calculate_190 (by decide) ?_
            refine k_zast F (pc := 191) false 8 (fun fl_9 => (wX4 E h cd n rt sc on lo hi non nlo nhi fl_9 tlo thi le3 gr3)) dX4_calculate_191 rfl rfl (by omega) (by decide) (fun _ => rfl) (fun fl_9 efl_9 => ?_)
            refine k_lv [(0, .ref (h 0)), (1, .int o), (2, .int (nI p)), (3, .int (nI a)), (4, .int (nI b)), (5, .int (nI c)), (6, .long (lo (4 * p + b))), (8, .long (hi (4 * p + b))), (10, .long (lo (4 * p + c))), (12, .long (hi (4 * p + c)))] [0, 1, 2, 3, 4, 5, 6, 7, 8, 9] rfl ?_
            exact J192 fl_9 le3 gr3 (by first | exact some_of_ne (calc_n6 (by assumption) _ _ _ _) hfl | exact some_of_ne (by rw [ho6]; exact fun h => absurd ((calc6_none hle).mp h).1 (by assumption)) hfl | exact some_of_ne (by rw [ho6]; exact fun h => absurd ((calc6_none hle).mp h).2 (by assumption)) hfl | exact none_of_eq (by rw [ho6]; exact (calc6_none hle).mpr ⟨by assumption, by assumption⟩) (by simp [*, upB])) (by first | rfl | simp [*, upB]) (by first | (rw [calcR, if_neg (by assumption)]; exact hco _ hL0) | exact hL2)
      refine k_lload F (pc := 140) 9 rfl dX4_calculate_140 ?_
      refine k_lconst F (pc := 142) 0 dX4_calculate_142 (by decide) ?_
      refine k_lcmp_le F (pc := 143) 171 dX4_calculate_143 dX4_calculate_144 (by decide) (fun c_10 => ?_) (fun c_10 => ?_)
      · skip
        refine k_lv [(0, .ref (h 0)), (1, .int o), (2, .int (nI p)), (3, .int (nI a)), (4, .int (nI b)), (5, .int (nI c)), (6, .long (lo (4 * p + b))), (8, .long (hi (4 * p + b))), (10, .long (lo (4 * p + c))), (12, .long (hi (4 * p + c)))] [0, 1, 2, 3, 4, 5, 6, 7, 8, 9] rfl ?_
        exact J171 le2 gr2 (by first | (rw [calcR, if_pos ho6, if_neg (by assumption)]; exact hL1) | (rw [calcR, if_pos ho6, if_pos (by assumption), if_pos (by assumption)]; rw [ho6] at hco2; exact hco2 _ hL1) | (rw [calcR, if_pos ho6, if_pos (by assumption), if_neg (by assumption)]; rw [ho6] at hco2; exact hco2 _ hL1))
      · skip
        refine k_aload_n F (pc := 147) 0 rfl dX4_calculate_147 rfl ?_
        refine k_iload_n F (pc := 148) 1 rfl dX4_calculate_148 rfl ?_
        refine k_lload F (pc := 149) 6 rfl dX4_calculate_149 ?_
        refine k_lload F (pc := 151) 7 rfl dX4_calculate_151 ?_
        refine k_lload F (pc := 153) 8 rfl dX4_calculate_153 ?_
        refine k_lconst F (pc := 155) 0 dX4_calculate_155 (by decide) ?_
        refine k_lcmp_le F (pc := 156) 165 dX4_calculate_156 dX4_calculate_157 (by decide) (fun c_11 => ?_) (fun c_11 => ?_)
        · skip
          refine k_lconst F (pc := 165) 1 dX4_calculate_165 (by decide) ?_
          refine k_lload F (pc := 166) 9 rfl dX4_calculate_166 ?_
          refine k_callV F (pc := 168) (C := RX4) (T := TX4) (N := 15) (ci := 4) [.int o, .long (lo (4 * p + b)), .long (hi (4 * p + b)), .long 1, .long (hi (4 * p + c))] [] 5 (wX4 E h cd n rt sc on lo hi non nlo nhi fl tlo thi le2 gr2) [] [0, 1, 2, 3, 4, 5, 6, 7, 8, 9, 10] [] (m_X4_corners l E h cd n rt sc on lo hi non nlo nhi fl tlo thi le2 gr2 o (lo (4 * p + b)) (hi (4 * p + b)) 1 (hi (4 * p + c)) (Or.inr (Or.inr (Or.inr ⟨by first | exact L_gtne (by assumption) | exact L_1ne, L_gtne (by assumption)⟩)))) dX4_calculate_168 gX4_calculate_X4_corners rfl (by decide +kernel) rfl ⟨rfl, rfl⟩ (by decide) rfl (Nat.le_of_ble_eq_true rfl) (by decide) rfl rfl rfl rfl (by decide) (by decide) (by decide) ?_
          rintro v_14 w_15 ⟨le1_12, gr1_13, rfl, rfl, hco2⟩
          refine k_perm (wX4 E h cd n rt sc on lo hi non nlo nhi fl tlo thi le1_12 gr1_13) [0, 1, 2, 3, 4, 5, 6, 7, 8, 9, 10] (by decide) rfl ?_
          show kK g (wX4 E h cd n rt sc on lo hi non nlo nhi fl tlo thi le1_12 gr1_13) [(0, .ref (h 0)), (1, .int o), (2, .int (nI p)), (3, .int (nI a)), (4, .int (nI b)), (5, .int (nI c)), (6, .long (lo (4 * p + b))), (8, .long (hi (4 * p + b))), (10, .long (lo (4 * p + c))), (12, .long (hi (4 * p + c)))] 0 0 171 []
          refine k_lv [(0, .ref (h 0)), (1, .int o), (2, .int (nI p)), (3, .int (nI a)), (4, .int (nI b)), (5, .int (nI c)), (6, .long (lo (4 * p + b))), (8, .long (hi (4 * p + b))), (10, .long (lo (4 * p + c))), (12, .long (hi (4 * p + c)))] [0, 1, 2, 3, 4, 5, 6, 7, 8, 9] rfl ?_
          exact J171 le1_12 gr1_13 (by first | (rw [calcR, if_pos ho6, if_neg (by assumption)]; exact hL1) | (rw [calcR, if_pos ho6, if_pos (by assumption), if_pos (by assumption)]; rw [ho6] at hco2; exact hco2 _ hL1) | (rw [calcR, if_pos ho6, if_pos (by assumption), if_neg (by assumption)]; rw [ho6] at hco2; exact hco2 _ hL1))
        · skip
          refine k_lload F (pc := 160) 8 rfl dX4_calculate_160 ?_
          refine k_goto F (pc := 162) 166 dX4_calculate_162 (by decide) ?_
          refine k_lload F (pc := 166) 9 rfl dX4_calculate_166 ?_
          refine k_callV F (pc := 168) (C := RX4) (T := TX4) (N := 15) (ci := 4) [.int o, .long (lo (4 * p + b)), .long (hi (4 * p + b)), .long (lo (4 * p + c)), .long (hi (4 * p + c))] [] 5 (wX4 E h cd n rt sc on lo hi non nlo nhi fl tlo thi le2 gr2) [] [0, 1, 2, 3, 4, 5, 6, 7, 8, 9, 10] [] (m_X4_corners l E h cd n rt sc on lo hi non nlo nhi fl tlo thi le2 gr2 o (lo (4 * p + b)) (hi (4 * p + b)) (lo (4 * p + c)) (hi (4 * p + c)) (Or.inr (Or.inr (Or.inr ⟨by first | exact L_gtne (by assumption) | exact L_1ne, L_gtne (by assumption)⟩)))) dX4_calculate_168 gX4_calculate_X4_corners rfl (by decide +kernel) rfl ⟨rfl, rfl⟩ (by decide) rfl (Nat.le_of_ble_eq_true rfl) (by decide) rfl rfl rfl rfl (by decide) (by decide) (by decide) ?_
          rintro v_18 w_19 ⟨le1_16, gr1_17, rfl, rfl, hco2⟩
          refine k_perm (wX4 E h cd n rt sc on lo hi non nlo nhi fl tlo thi le1_16 gr1_17) [0, 1, 2, 3, 4, 5, 6, 7, 8, 9, 10] (by decide) rfl ?_
          show kK g (wX4 E h cd n rt sc on lo hi non nlo nhi fl tlo thi le1_16 gr1_17) [(0, .ref (h 0)), (1, .int o), (2, .int (nI p)), (3, .int (nI a)), (4, .int (nI b)), (5, .int (nI c)), (6, .long (lo (4 * p + b))), (8, .long (hi (4 * p + b))), (10, .long (lo (4 * p + c))), (12, .long (hi (4 * p + c)))] 0 0 171 []
          refine k_lv [(0, .ref (h 0)), (1, .int o), (2, .int (nI p)), (3, .int (nI a)), (4, .int (nI b)), (5, .int (nI c)), (6, .long (lo (4 * p + b))), (8, .long (hi (4 * p + b))), (10, .long (lo (4 * p + c))), (12, .long (hi (4 * p + c)))] [0, 1, 2, 3, 4, 5, 6, 7, 8, 9] rfl ?_
          exact J171 le1_16 gr1_17 (by first | (rw [calcR, if_pos ho6, if_neg (by assumption)]; exact hL1) | (rw [calcR, if_pos ho6, if_pos (by assumption), if_pos (by assumption)]; rw [ho6] at hco2; exact hco2 _ hL1) | (rw [calcR, if_pos ho6, if_pos (by assumption), if_neg (by assumption)]; rw [ho6] at hco2; exact hco2 _ hL1))
    refine k_lload F (pc := 107) 1 rfl dX4_calculate_107 ?_
    refine k_lconst F (pc := 109) 0 dX4_calculate_109 (by decide) ?_
    refine k_lcmp_ge F (pc := 110) 140 dX4_calculate_110 dX4_calculate_111 (by decide) (fun c_20 => ?_) (fun c_20 => ?_)
    · skip
      refine k_lv [(0, .ref (h 0)), (1, .int o), (2, .int (nI p)), (3, .int (nI a)), (4, .int (nI b)), (5, .int (nI c)), (6, .long (lo (4 * p + b))), (8, .long (hi (4 * p + b))), (10, .long (lo (4 * p + c))), (12, .long (hi (4 * p + c)))] [4, 5, 6, 7, 8, 9, 3, 2, 1, 0] rfl ?_
      exact J140 (4611686018427387904 + (4611686018427387904 - 1)) ((-(4611686018427387904 + (4611686018427387904 - 1))) - 1) (by first | (rw [calc1, if_neg (by assumption)]; exact hL0) | (rw [calc1, if_pos (by assumption), if_pos (by assumption)]; rw [ho6] at hco; exact hco _ hL0) | (rw [calc1, if_pos (by assumption), if_neg (by assumption)]; rw [ho6] at hco; exact hco _ hL0))
    · skip
      refine k_aload_n F (pc := 114) 4 rfl dX4_calculate_114 rfl ?_
      refine k_iload_n F (pc := 115) 5 rfl dX4_calculate_115 rfl ?_
      refine k_lload F (pc := 116) 3 rfl dX4_calculate_116 ?_
      refine k_lload F (pc := 118) 2 rfl dX4_calculate_118 ?_
      refine k_lload F (pc := 120) 1 rfl dX4_calculate_120 ?_
      refine k_lload F (pc := 122) 0 rfl dX4_calculate_122 ?_
      refine k_lconst F (pc := 124) 0 dX4_calculate_124 (by decide) ?_
      refine k_lcmp_ge F (pc := 125) 134 dX4_calculate_125 dX4_calculate_126 (by decide) (fun c_21 => ?_) (fun c_21 => ?_)
      · skip
        refine k_ldc2 F (pc := 134) (-1) dX4_calculate_134 zm_X4_calculate_c87 ?_
        refine k_callV F (pc := 137) (C := RX4) (T := TX4) (N := 15) (ci := 4) [.int o, .long (lo (4 * p + b)), .long (hi (4 * p + b)), .long (lo (4 * p + c)), .long (-1)] [] 5 (wX4 E h cd n rt sc on lo hi non nlo nhi fl tlo thi (4611686018427387904 + (4611686018427387904 - 1)) ((-(4611686018427387904 + (4611686018427387904 - 1))) - 1)) [] [0, 1, 2, 3, 4, 5, 6, 7, 8, 9, 10] [] (m_X4_corners l E h cd n rt sc on lo hi non nlo nhi fl tlo thi (4611686018427387904 + (4611686018427387904 - 1)) ((-(4611686018427387904 + (4611686018427387904 - 1))) - 1) o (lo (4 * p + b)) (hi (4 * p + b)) (lo (4 * p + c)) (-1) (Or.inr (Or.inr (Or.inr ⟨L_ltne (by assumption), by first | exact L_ltne (by assumption) | exact L_m1ne⟩)))) dX4_calculate_137 gX4_calculate_X4_corners rfl (by decide +kernel) rfl ⟨rfl, rfl⟩ (by decide) rfl (Nat.le_of_ble_eq_true rfl) (by decide) rfl rfl rfl rfl (by decide) (by decide) (by decide) ?_
        rintro v_24 w_25 ⟨le1_22, gr1_23, rfl, rfl, hco⟩
        refine k_perm (wX4 E h cd n rt sc on lo hi non nlo nhi fl tlo thi le1_22 gr1_23) [0, 1, 2, 3, 4, 5, 6, 7, 8, 9, 10] (by decide) rfl ?_
        show kK g (wX4 E h cd n rt sc on lo hi non nlo nhi fl tlo thi le1_22 gr1_23) [(12, .long (hi (4 * p + c))), (10, .long (lo (4 * p + c))), (8, .long (hi (4 * p + b))), (6, .long (lo (4 * p + b))), (0, .ref (h 0)), (1, .int o), (2, .int (nI p)), (3, .int (nI a)), (4, .int (nI b)), (5, .int (nI c))] 0 0 140 []
        refine k_lv [(0, .ref (h 0)), (1, .int o), (2, .int (nI p)), (3, .int (nI a)), (4, .int (nI b)), (5, .int (nI c)), (6, .long (lo (4 * p + b))), (8, .long (hi (4 * p + b))), (10, .long (lo (4 * p + c))), (12, .long (hi (4 * p + c)))] [4, 5, 6, 7, 8, 9, 3, 2, 1, 0] rfl ?_
        exact J140 le1_22 gr1_23 (by first | (rw [calc1, if_neg (by assumption)]; exact hL0) | (rw [calc1, if_pos (by assumption), if_pos (by assumption)]; rw [ho6] at hco; exact hco _ hL0) | (rw [calc1, if_pos (by assumption), if_neg (by assumption)]; rw [ho6] at hco; exact hco _ hL0))
      · skip
        refine k_lload F (pc := 129) 0 rfl dX4_calculate_129 ?_
        refine k_goto F (pc := 131) 137 dX4_calculate_131 (by decide) ?_
        refine k_callV F (pc := 137) (C := RX4) (T := TX4) (N := 15) (ci := 4) [.int o, .long (lo (4 * p + b)), .long (hi (4 * p + b)), .long (lo (4 * p + c)), .long (hi (4 * p + c))] [] 5 (wX4 E h cd n rt sc on lo hi non nlo nhi fl tlo thi (4611686018427387904 + (4611686018427387904 - 1)) ((-(4611686018427387904 + (4611686018427387904 - 1))) - 1)) [] [0, 1, 2, 3, 4, 5, 6, 7, 8, 9, 10] [] (m_X4_corners l E h cd n rt sc on lo hi non nlo nhi fl tlo thi (4611686018427387904 + (4611686018427387904 - 1)) ((-(4611686018427387904 + (4611686018427387904 - 1))) - 1) o (lo (4 * p + b)) (hi (4 * p + b)) (lo (4 * p + c)) (hi (4 * p + c)) (Or.inr (Or.inr (Or.inr ⟨L_ltne (by assumption), by first | exact L_ltne (by assumption) | exact L_m1ne⟩)))) dX4_calculate_137 gX4_calculate_X4_corners rfl (by decide +kernel) rfl ⟨rfl, rfl⟩ (by decide) rfl (Nat.le_of_ble_eq_true rfl) (by decide) rfl rfl rfl rfl (by decide) (by decide) (by decide) ?_
        rintro v_28 w_29 ⟨le1_26, gr1_27, rfl, rfl, hco⟩
        refine k_perm (wX4 E h cd n rt sc on lo hi non nlo nhi fl tlo thi le1_26 gr1_27) [0, 1, 2, 3, 4, 5, 6, 7, 8, 9, 10] (by decide) rfl ?_
        show kK g (wX4 E h cd n rt sc on lo hi non nlo nhi fl tlo thi le1_26 gr1_27) [(12, .long (hi (4 * p + c))), (10, .long (lo (4 * p + c))), (8, .long (hi (4 * p + b))), (6, .long (lo (4 * p + b))), (0, .ref (h 0)), (1, .int o), (2, .int (nI p)), (3, .int (nI a)), (4, .int (nI b)), (5, .int (nI c))] 0 0 140 []
        refine k_lv [(0, .ref (h 0)), (1, .int o), (2, .int (nI p)), (3, .int (nI a)), (4, .int (nI b)), (5, .int (nI c)), (6, .long (lo (4 * p + b))), (8, .long (hi (4 * p + b))), (10, .long (lo (4 * p + c))), (12, .long (hi (4 * p + c)))] [4, 5, 6, 7, 8, 9, 3, 2, 1, 0] rfl ?_
        exact J140 le1_26 gr1_27 (by first | (rw [calc1, if_neg (by assumption)]; exact hL0) | (rw [calc1, if_pos (by assumption), if_pos (by assumption)]; rw [ho6] at hco; exact hco _ hL0) | (rw [calc1, if_pos (by assumption), if_neg (by assumption)]; rw [ho6] at hco; exact hco _ hL0))
  · skip
    refine k_aload_n F (pc := 91) 4 rfl dX4_calculate_91 rfl ?_
    refine k_iload_n F (pc := 92) 5 rfl dX4_calculate_92 rfl ?_
    refine k_lload F (pc := 93) 3 rfl dX4_calculate_93 ?_
    refine k_lload F (pc := 95) 2 rfl dX4_calculate_95 ?_
    refine k_lload F (pc := 97) 1 rfl dX4_calculate_97 ?_
    refine k_lload F (pc := 99) 0 rfl dX4_calculate_99 ?_
    refine k_callV F (pc := 101) (C := RX4) (T := TX4) (N := 15) (ci := 4) [.int o, .long (lo (4 * p + b)), .long (hi (4 * p + b)), .long (lo (4 * p + c)), .long (hi (4 * p + c))] [] 5 (wX4 E h cd n rt sc on lo hi non nlo nhi fl tlo thi (4611686018427387904 + (4611686018427387904 - 1)) ((-(4611686018427387904 + (4611686018427387904 - 1))) - 1)) [] [0, 1, 2, 3, 4, 5, 6, 7, 8, 9, 10] [] (m_X4_corners l E h cd n rt sc on lo hi non nlo nhi fl tlo thi (4611686018427387904 + (4611686018427387904 - 1)) ((-(4611686018427387904 + (4611686018427387904 - 1))) - 1) o (lo (4 * p + b)) (hi (4 * p + b)) (lo (4 * p + c)) (hi (4 * p + c)) (by omega)) dX4_calculate_101 gX4_calculate_X4_corners rfl (by decide +kernel) rfl ⟨rfl, rfl⟩ (by decide) rfl (Nat.le_of_ble_eq_true rfl) (by decide) rfl rfl rfl rfl (by decide) (by decide) (by decide) ?_
    rintro v_32 w_33 ⟨le1_30, gr1_31, rfl, rfl, hco⟩
    refine k_perm (wX4 E h cd n rt sc on lo hi non nlo nhi fl tlo thi le1_30 gr1_31) [0, 1, 2, 3, 4, 5, 6, 7, 8, 9, 10] (by decide) rfl ?_
    show kK g (wX4 E h cd n rt sc on lo hi non nlo nhi fl tlo thi le1_30 gr1_31) [(12, .long (hi (4 * p + c))), (10, .long (lo (4 * p + c))), (8, .long (hi (4 * p + b))), (6, .long (lo (4 * p + b))), (0, .ref (h 0)), (1, .int o), (2, .int (nI p)), (3, .int (nI a)), (4, .int (nI b)), (5, .int (nI c))] 0 0 104 []
    refine k_goto F (pc := 104) 192 dX4_calculate_104 (by decide) ?_
    refine k_lv [(0, .ref (h 0)), (1, .int o), (2, .int (nI p)), (3, .int (nI a)), (4, .int (nI b)), (5, .int (nI c)), (6, .long (lo (4 * p + b))), (8, .long (hi (4 * p + b))), (10, .long (lo (4 * p + c))), (12, .long (hi (4 * p + c)))] [4, 5, 6, 7, 8, 9, 3, 2, 1, 0] rfl ?_
    exact J192 fl le1_30 gr1_31 (by first | exact some_of_ne (calc_n6 (by assumption) _ _ _ _) hfl | exact some_of_ne (by rw [ho6]; exact fun h => absurd ((calc6_none hle).mp h).1 (by assumption)) hfl | exact some_of_ne (by rw [ho6]; exact fun h => absurd ((calc6_none hle).mp h).2 (by assumption)) hfl | exact none_of_eq (by rw [ho6]; exact (calc6_none hle).mpr ⟨by assumption, by assumption⟩) (by simp [*, upB])) (by first | rfl | simp [*, upB]) (by first | (rw [calcR, if_neg (by assumption)]; exact hco _ hL0) | exact hL2)
theorem zm_X4_compare_f17 : (Cond.fieldLink RX4 17 RX4 "lo" "[J" : Cond) ∈ wsX4_compare := by decide +kernel
theorem zin_X4_compare_X4 : ∀ w ∈ u_ws RX4 TX4 15, w ∈ wsX4_compare := by decide +kernel
theorem zm_X4_compare_f21 : (Cond.fieldLink RX4 21 RX4 "hi" "[J" : Cond) ∈ wsX4_compare := by decide +kernel
theorem zm_X4_compare_f33 : (Cond.fieldLink RX4 33 RX4 "flows" "[Z" : Cond) ∈ wsX4_compare := by decide +kernel
theorem zm_X4_compare_f36 : (Cond.fieldLink RX4 36 RX4 "tlo" "[J" : Cond) ∈ wsX4_compare := by decide +kernel
theorem zm_X4_compare_f39 : (Cond.fieldLink RX4 39 RX4 "thi" "[J" : Cond) ∈ wsX4_compare := by decide +kernel
set_option maxHeartbeats 4000000 in
set_option maxRecDepth 100000 in
theorem m_X4_compare (l : Launch) (E : kE) (h : Nat → Nat) (cd : Nat → Int32) (n : Nat) (rt : Nat) (sc : Bool) (on : Nat → Bool) (lo : Nat → Int64) (hi : Nat → Int64) (non : Nat → Bool) (nlo : Nat → Int64) (nhi : Nat → Int64) (fl : Nat → Bool) (tlo : Nat → Int64) (thi : Nat → Int64) (le : Int64) (gr : Int64) (p : Nat) (a : Nat) (b : Nat) (X : IV × IV) (hp : p < 24) (ha : a < 4) (hb : b < 4) (hR : ∀ v, v < 4 → lo (4 * p + v) = X.1 v ∧ hi (4 * p + v) = X.2 v) (hcp : ∀ v, v < 4 → tlo v = lo (4 * p + v) ∧ thi v = hi (4 * p + v) ∧ tlo (4 + v) = lo (4 * p + v) ∧ thi (4 + v) = hi (4 * p + v)) (hf0 : fl 0 = true) (hf1 : fl 1 = true) : kC l yX4_compare wsX4_compare ({ frames := 0, cells := 0, slots := 0, locals := 0 } : Room) E [.ref (h 0), .int (nI p), .int (nI a), .int (nI b)] (wX4 E h cd n rt sc on lo hi non nlo nhi fl tlo thi le gr) 0 0 (fun v_ w_ => ∃ (fl1 : Nat → Bool) (tlo1 : Nat → Int64) (thi1 : Nat → Int64), v_ = none ∧ w_ = (wX4 E h cd n rt sc on lo hi non nlo nhi fl1 tlo1 thi1 le gr) ∧ (FRep (fl1 0) tlo1 thi1 (if a = b then some X else unlessX (cmpN X a b) a b) ∧ FRep (fl1 1) (fun v => tlo1 (4 + v)) (fun v => thi1 (4 + v)) (if a = b then none else unlessX (cmpP X a b) a b))) := by
  refine kC.enter cX4_compare 12 none [(0, .ref (h 0)), (1, .int (nI p)), (2, .int (nI a)), (3, .int (nI b))] (by decide) rfl (Nat.le_of_ble_eq_true rfl) rfl ?_
  intro g F Rr
  refine k_iload_n F (pc := 0) 2 rfl dX4_compare_0 rfl ?_
  refine k_iload_n F (pc := 1) 3 rfl dX4_compare_1 rfl ?_
  refine k_icmp_ne F (pc := 2) 13 dX4_compare_2 (by decide) (nI_toInt (by omega)) (nI_toInt (by omega)) (fun c_1 => ?_) (fun c_1 => ?_)
  · skip
    have hab : ¬ a = b := by omega
    refine k_aload_n F (pc := 13) 0 rfl dX4_compare_13 rfl ?_
    refine k_get F (pc := 14) (ref := RX4) (C := RX4) (T := TX4) (N := 15) (ci := 4) 0 5 dX4_compare_14 zin_X4_compare_X4 rfl rfl (by decide) zm_X4_compare_f17 rfl rfl ?_
    refine k_iconst F (pc := 17) ((nI 4)) dX4_compare_17 (by decide) ?_
    refine k_iload_n F (pc := 18) 1 rfl dX4_compare_18 rfl ?_
    refine k_imulN F (pc := 19) dX4_compare_19 ?_
    refine k_iload_n F (pc := 20) 2 rfl dX4_compare_20 rfl ?_
    refine k_iaddN F (pc := 21) dX4_compare_21 ?_
    refine k_lald F (pc := 22) 3 dX4_compare_22 rfl (by omega) (by decide) ?_
    refine k_lstore F (pc := 23) [(4, .long (lo (4 * p + a))), (0, .ref (h 0)), (1, .int (nI p)), (2, .int (nI a)), (3, .int (nI b))] dX4_compare_23 (by decide) rfl ?_
    refine k_aload_n F (pc := 25) 1 rfl dX4_compare_25 rfl ?_
    refine k_get F (pc := 26) (ref := RX4) (C := RX4) (T := TX4) (N := 15) (ci := 4) 0 6 dX4_compare_26 zin_X4_compare_X4 rfl rfl (by decide) zm_X4_compare_f21 rfl rfl ?_
    refine k_iconst F (pc := 29) ((nI 4)) dX4_compare_29 (by decide) ?_
    refine k_iload_n F (pc := 30) 2 rfl dX4_compare_30 rfl ?_
    refine k_imulN F (pc := 31) dX4_compare_31 ?_
    refine k_iload_n F (pc := 32) 3 rfl dX4_compare_32 rfl ?_
    refine k_iaddN F (pc := 33) dX4_compare_33 ?_
    refine k_lald F (pc := 34) 4 dX4_compare_34 rfl (by omega) (by decide) ?_
    refine k_lstore F (pc := 35) [(6, .long (hi (4 * p + a))), (4, .long (lo (4 * p + a))), (0, .ref (h 0)), (1, .int (nI p)), (2, .int (nI a)), (3, .int (nI b))] dX4_compare_35 (by decide) rfl ?_
    refine k_aload_n F (pc := 37) 2 rfl dX4_compare_37 rfl ?_
    refine k_get F (pc := 38) (ref := RX4) (C := RX4) (T := TX4) (N := 15) (ci := 4) 0 5 dX4_compare_38 zin_X4_compare_X4 rfl rfl (by decide) zm_X4_compare_f17 rfl rfl ?_
    refine k_iconst F (pc := 41) ((nI 4)) dX4_compare_41 (by decide) ?_
    refine k_iload_n F (pc := 42) 3 rfl dX4_compare_42 rfl ?_
    refine k_imulN F (pc := 43) dX4_compare_43 ?_
    refine k_iload_n F (pc := 44) 5 rfl dX4_compare_44 rfl ?_
    refine k_iaddN F (pc := 45) dX4_compare_45 ?_
    refine k_lald F (pc := 46) 3 dX4_compare_46 rfl (by omega) (by decide) ?_
    refine k_lstore F (pc := 47) [(8, .long (lo (4 * p + b))), (6, .long (hi (4 * p + a))), (4, .long (lo (4 * p + a))), (0, .ref (h 0)), (1, .int (nI p)), (2, .int (nI a)), (3, .int (nI b))] dX4_compare_47 (by decide) rfl ?_
    refine k_aload_n F (pc := 49) 3 rfl dX4_compare_49 rfl ?_
    refine k_get F (pc := 50) (ref := RX4) (C := RX4) (T := TX4) (N := 15) (ci := 4) 0 6 dX4_compare_50 zin_X4_compare_X4 rfl rfl (by decide) zm_X4_compare_f21 rfl rfl ?_
    refine k_iconst F (pc := 53) ((nI 4)) dX4_compare_53 (by decide) ?_
    refine k_iload_n F (pc := 54) 4 rfl dX4_compare_54 rfl ?_
    refine k_imulN F (pc := 55) dX4_compare_55 ?_
    refine k_iload_n F (pc := 56) 6 rfl dX4_compare_56 rfl ?_
    refine k_iaddN F (pc := 57) dX4_compare_57 ?_
    refine k_lald F (pc := 58) 4 dX4_compare_58 rfl (by omega) (by decide) ?_
    refine k_lstore F (pc := 59) [(10, .long (hi (4 * p + b))), (8, .long (lo (4 * p + b))), (6, .long (hi (4 * p + a))), (4, .long (lo (4 * p + a))), (0, .ref (h 0)), (1, .int (nI p)), (2, .int (nI a)), (3, .int (nI b))] dX4_compare_59 (by decide) rfl ?_
    have J77 : ∀ (tlo2 : Nat → Int64), (tlo2 = vp_updL tlo a (mx (lo (4 * p + a)) (lo (4 * p + b)))) → kK g (wX4 E h cd n rt sc on lo hi non nlo nhi fl tlo2 thi le gr) [(0, .ref (h 0)), (1, .int (nI p)), (2, .int (nI a)), (3, .int (nI b)), (4, .long (lo (4 * p + a))), (6, .long (hi (4 * p + a))), (8, .long (lo (4 * p + b))), (10, .long (hi (4 * p + b)))] 0 0 77 [] := by
      intro tlo2 h1
      have J93 : ∀ (thi2 : Nat → Int64), (thi2 = vp_updL thi b (mn (hi (4 * p + b)) (hi (4 * p + a)))) → kK g (wX4 E h cd n rt sc on lo hi non nlo nhi fl tlo2 thi2 le gr) [(0, .ref (h 0)), (1, .int (nI p)), (2, .int (nI a)), (3, .int (nI b)), (4, .long (lo (4 * p + a))), (6, .long (hi (4 * p + a))), (8, .long (lo (4 * p + b))), (10, .long (hi (4 * p + b)))] 0 0 93 [] := by
        intro thi2 h2
        refine k_aload_n F (pc := 93) 0 rfl dX4_compare_93 rfl ?_
        refine k_get F (pc := 94) (ref := RX4) (C := RX4) (T := TX4) (N := 15) (ci := 4) 0 10 dX4_compare_94 zin_X4_compare_X4 rfl rfl (by decide) zm_X4_compare_f33 rfl rfl ?_
        refine k_iconst F (pc := 97) ((nI 0)) dX4_compare_97 (by decide) ?_
        have J135 : ∀ (z : Bool), (z = true ↔ ¬ thi2 a < tlo2 a ∧ ¬ thi2 b < tlo2 b) → kK g (wX4 E h cd n rt sc on lo hi non nlo nhi fl tlo2 thi2 le gr) [(0, .ref (h 0)), (1, .int (nI p)), (2, .int (nI a)), (3, .int (nI b)), (4, .long (lo (4 * p + a))), (6, .long (hi (4 * p + a))), (8, .long (lo (4 * p + b))), (10, .long (hi (4 * p + b)))] 0 0 135 [.int (bI z), .int (nI 0), .ref (h 8)] := by
          intro z hz
          refine k_zast F (pc := 135) z 8 (fun fl_2 => (wX4 E h cd n rt sc on lo hi non nlo nhi fl_2 tlo2 thi2 le gr)) dX4_compare_135 rfl rfl (by omega) (by decide) (fun _ => rfl) (fun fl_2 efl_2 => ?_)
          have J158 : ∀ (thi3 : Nat → Int64), (thi3 = vp_updL thi2 (4 + a) (mn (hi (4 * p + a)) (hi (4 * p + b) - 1))) → kK g (wX4 E h cd n rt sc on lo hi non nlo nhi fl_2 tlo2 thi3 le gr) [(0, .ref (h 0)), (1, .int (nI p)), (2, .int (nI a)), (3, .int (nI b)), (4, .long (lo (4 * p + a))), (6, .long (hi (4 * p + a))), (8, .long (lo (4 * p + b))), (10, .long (hi (4 * p + b)))] 0 0 158 [] := by
            intro thi3 h3
            have J180 : ∀ (tlo3 : Nat → Int64), (tlo3 = vp_updL tlo2 (4 + b) (mx (lo (4 * p + b)) (lo (4 * p + a) + 1))) → kK g (wX4 E h cd n rt sc on lo hi non nlo nhi fl_2 tlo3 thi3 le gr) [(0, .ref (h 0)), (1, .int (nI p)), (2, .int (nI a)), (3, .int (nI b)), (4, .long (lo (4 * p + a))), (6, .long (hi (4 * p + a))), (8, .long (lo (4 * p + b))), (10, .long (hi (4 * p + b)))] 0 0 180 [] := by
              intro tlo3 h4
              refine k_aload_n F (pc := 180) 0 rfl dX4_compare_180 rfl ?_
              refine k_get F (pc := 181) (ref := RX4) (C := RX4) (T := TX4) (N := 15) (ci := 4) 0 10 dX4_compare_181 zin_X4_compare_X4 rfl rfl (by decide) zm_X4_compare_f33 rfl rfl ?_
              refine k_iconst F (pc := 184) ((nI 1)) dX4_compare_184 (by decide) ?_
              have J230 : ∀ (z2 : Bool), (z2 = true ↔ ¬ thi3 (4 + a) < tlo3 (4 + a) ∧ ¬ thi3 (4 + b) < tlo3 (4 + b)) → kK g (wX4 E h cd n rt sc on lo hi non nlo nhi fl_2 tlo3 thi3 le gr) [(0, .ref (h 0)), (1, .int (nI p)), (2, .int (nI a)), (3, .int (nI b)), (4, .long (lo (4 * p + a))), (6, .long (hi (4 * p + a))), (8, .long (lo (4 * p + b))), (10, .long (hi (4 * p + b)))] 0 0 230 [.int (bI z2), .int (nI 1), .ref (h 8)] := by
                intro z2 hz2
                refine k_zast F (pc := 230) z2 8 (fun fl_3 => (wX4 E h cd n rt sc on lo hi non nlo nhi fl_3 tlo3 thi3 le gr)) dX4_compare_230 rfl rfl (by omega) (by decide) (fun _ => rfl) (fun fl_3 efl_3 => ?_)
                refine k_vret F Rr (pc := 231) dX4_compare_231 ⟨fl_3, tlo3, thi3, rfl, rfl, ?_⟩
                rw [if_neg hab, if_neg hab]
                have hq := cmp_fin (fl := fl) ha hb hab hR hcp h1 h2 hz h3 h4 hz2
                refine ⟨frep_b (v := z) (by simp [*, upB]) hq.1, frep_b (v := z2) (by simp [*, upB]) hq.2⟩
              refine k_aload_n F (pc := 185) 0 rfl dX4_compare_185 rfl ?_
              refine k_get F (pc := 186) (ref := RX4) (C := RX4) (T := TX4) (N := 15) (ci := 4) 0 11 dX4_compare_186 zin_X4_compare_X4 rfl rfl (by decide) zm_X4_compare_f36 rfl rfl ?_
              refine k_iconst F (pc := 189) ((nI 4)) dX4_compare_189 (by decide) ?_
              refine k_iload_n F (pc := 190) 2 rfl dX4_compare_190 rfl ?_
              refine k_iaddN F (pc := 191) dX4_compare_191 ?_
              refine k_lald F (pc := 192) 9 dX4_compare_192 rfl (by omega) (by decide) ?_
              refine k_aload_n F (pc := 193) 0 rfl dX4_compare_193 rfl ?_
              refine k_get F (pc := 194) (ref := RX4) (C := RX4) (T := TX4) (N := 15) (ci := 4) 0 12 dX4_compare_194 zin_X4_compare_X4 rfl rfl (by decide) zm_X4_compare_f39 rfl rfl ?_
              refine k_iconst F (pc := 197) ((nI 4)) dX4_compare_197 (by decide) ?_
              refine k_iload_n F (pc := 198) 2 rfl dX4_compare_198 rfl ?_
              refine k_iaddN F (pc := 199) dX4_compare_199 ?_
              refine k_lald F (pc := 200) 10 dX4_compare_200 rfl (by omega) (by decide) ?_
              refine k_lcmp_gt F (pc := 201) 229 dX4_compare_201 dX4_compare_202 (by decide) (fun c_4 => ?_) (fun c_4 => ?_)
              · skip
                refine k_iconst F (pc := 229) ((nI 0)) dX4_compare_229 (by decide) ?_
                refine k_lv [(0, .ref (h 0)), (1, .int (nI p)), (2, .int (nI a)), (3, .int (nI b)), (4, .long (lo (4 * p + a))), (6, .long (hi (4 * p + a))), (8, .long (lo (4 * p + b))), (10, .long (hi (4 * p + b)))] [0, 1, 2, 3, 4, 5, 6, 7] rfl ?_
                exact J230 false (by first | exact ⟨fun _ => ⟨by assumption, by assumption⟩, fun _ => rfl⟩ | exact ⟨fun h => absurd h (by decide), fun h => absurd (by assumption) h.1⟩ | exact ⟨fun h => absurd h (by decide), fun h => absurd (by assumption) h.2⟩)
              · skip
                refine k_aload_n F (pc := 205) 0 rfl dX4_compare_205 rfl ?_
                refine k_get F (pc := 206) (ref := RX4) (C := RX4) (T := TX4) (N := 15) (ci := 4) 0 11 dX4_compare_206 zin_X4_compare_X4 rfl rfl (by decide) zm_X4_compare_f36 rfl rfl ?_
                refine k_iconst F (pc := 209) ((nI 4)) dX4_compare_209 (by decide) ?_
                refine k_iload_n F (pc := 210) 3 rfl dX4_compare_210 rfl ?_
                refine k_iaddN F (pc := 211) dX4_compare_211 ?_
                refine k_lald F (pc := 212) 9 dX4_compare_212 rfl (by omega) (by decide) ?_
                refine k_aload_n F (pc := 213) 0 rfl dX4_compare_213 rfl ?_
                refine k_get F (pc := 214) (ref := RX4) (C := RX4) (T := TX4) (N := 15) (ci := 4) 0 12 dX4_compare_214 zin_X4_compare_X4 rfl rfl (by decide) zm_X4_compare_f39 rfl rfl ?_
                refine k_iconst F (pc := 217) ((nI 4)) dX4_compare_217 (by decide) ?_
                refine k_iload_n F (pc := 218) 3 rfl dX4_compare_218 rfl ?_
                refine k_iaddN F (pc := 219) dX4_compare_219 ?_
                refine k_lald F (pc := 220) 10 dX4_compare_220 rfl (by omega) (by decide) ?_
                refine k_lcmp_gt F (pc := 221) 229 dX4_compare_221 dX4_compare_222 (by decide) (fun c_5 => ?_) (fun c_5 => ?_)
                · skip
                  refine k_iconst F (pc := 229) ((nI 0)) dX4_compare_229 (by decide) ?_
                  refine k_lv [(0, .ref (h 0)), (1, .int (nI p)), (2, .int (nI a)), (3, .int (nI b)), (4, .long (lo (4 * p + a))), (6, .long (hi (4 * p + a))), (8, .long (lo (4 * p + b))), (10, .long (hi (4 * p + b)))] [0, 1, 2, 3, 4, 5, 6, 7] rfl ?_
                  exact J230 false (by first | exact ⟨fun _ => ⟨by assumption, by assumption⟩, fun _ => rfl⟩ | exact ⟨fun h => absurd h (by decide), fun h => absurd (by assumption) h.1⟩ | exact ⟨fun h => absurd h (by decide), fun h => absurd (by assumption) h.2⟩)
                · skip
                  refine k_iconst F (pc := 225) ((nI 1)) dX4_compare_225 (by decide) ?_
                  refine k_goto F (pc := 226) 230 dX4_compare_226 (by decide) ?_
                  refine k_lv [(0, .ref (h 0)), (1, .int (nI p)), (2, .int (nI a)), (3, .int (nI b)), (4, .long (lo (4 * p + a))), (6, .long (hi (4 * p + a))), (8, .long (lo (4 * p + b))), (10, .long (hi (4 * p + b)))] [0, 1, 2, 3, 4, 5, 6, 7] rfl ?_
                  exact J230 true (by first | exact ⟨fun _ => ⟨by assumption, by assumption⟩, fun _ => rfl⟩ | exact ⟨fun h => absurd h (by decide), fun h => absurd (by assumption) h.1⟩ | exact ⟨fun h => absurd h (by decide), fun h => absurd (by assumption) h.2⟩)
            refine k_lload F (pc := 158) 4 rfl dX4_compare_158 ?_
            refine k_lconst F (pc := 160) 1 dX4_compare_160 (by decide) ?_
            refine k_ladd F (pc := 161) dX4_compare_161 ?_
            refine k_lload F (pc := 162) 6 rfl dX4_compare_162 ?_
            refine k_lcmp_le F (pc := 164) 180 dX4_compare_164 dX4_compare_165 (by decide) (fun c_6 => ?_) (fun c_6 => ?_)
            · skip
              refine k_lv [(0, .ref (h 0)), (1, .int (nI p)), (2, .int (nI a)), (3, .int (nI b)), (4, .long (lo (4 * p + a))), (6, .long (hi (4 * p + a))), (8, .long (lo (4 * p + b))), (10, .long (hi (4 * p + b)))] [0, 1, 2, 3, 4, 5, 6, 7] rfl ?_
              exact J180 tlo2 (by first | exact updL_t (by assumption) (mx_t (by assumption)) | exact updL_f ((mx_f (by assumption)).trans (by rw [h1]; simp only [vp_updL, if_neg (show ¬ 4 + b = a by omega)]; exact (hcp b hb).2.2.1.symm)))
            · skip
              refine k_aload_n F (pc := 168) 0 rfl dX4_compare_168 rfl ?_
              refine k_get F (pc := 169) (ref := RX4) (C := RX4) (T := TX4) (N := 15) (ci := 4) 0 11 dX4_compare_169 zin_X4_compare_X4 rfl rfl (by decide) zm_X4_compare_f36 rfl rfl ?_
              refine k_iconst F (pc := 172) ((nI 4)) dX4_compare_172 (by decide) ?_
              refine k_iload_n F (pc := 173) 3 rfl dX4_compare_173 rfl ?_
              refine k_iaddN F (pc := 174) dX4_compare_174 ?_
              refine k_lload F (pc := 175) 4 rfl dX4_compare_175 ?_
              refine k_lconst F (pc := 177) 1 dX4_compare_177 (by decide) ?_
              refine k_ladd F (pc := 178) dX4_compare_178 ?_
              refine k_last F (pc := 179) 9 (fun tlo_7 => (wX4 E h cd n rt sc on lo hi non nlo nhi fl_2 tlo_7 thi3 le gr)) dX4_compare_179 rfl (by omega) (by decide) (fun _ => rfl) (fun tlo_7 etlo_7 => ?_)
              refine k_lv [(0, .ref (h 0)), (1, .int (nI p)), (2, .int (nI a)), (3, .int (nI b)), (4, .long (lo (4 * p + a))), (6, .long (hi (4 * p + a))), (8, .long (lo (4 * p + b))), (10, .long (hi (4 * p + b)))] [0, 1, 2, 3, 4, 5, 6, 7] rfl ?_
              exact J180 tlo_7 (by first | exact updL_t (by assumption) (mx_t (by assumption)) | exact updL_f ((mx_f (by assumption)).trans (by rw [h1]; simp only [vp_updL, if_neg (show ¬ 4 + b = a by omega)]; exact (hcp b hb).2.2.1.symm)))
          refine k_lload F (pc := 136) 7 rfl dX4_compare_136 ?_
          refine k_lconst F (pc := 138) 1 dX4_compare_138 (by decide) ?_
          refine k_lsub F (pc := 139) dX4_compare_139 ?_
          refine k_lload F (pc := 140) 5 rfl dX4_compare_140 ?_
          refine k_lcmp_ge F (pc := 142) 158 dX4_compare_142 dX4_compare_143 (by decide) (fun c_8 => ?_) (fun c_8 => ?_)
          · skip
            refine k_lv [(0, .ref (h 0)), (1, .int (nI p)), (2, .int (nI a)), (3, .int (nI b)), (4, .long (lo (4 * p + a))), (6, .long (hi (4 * p + a))), (8, .long (lo (4 * p + b))), (10, .long (hi (4 * p + b)))] [0, 1, 2, 3, 4, 5, 6, 7] rfl ?_
            exact J158 thi2 (by first | exact updL_t (by assumption) (mn_t (by assumption)) | exact updL_f ((mn_f (by assumption)).trans (by rw [h2]; simp only [vp_updL, if_neg (show ¬ 4 + a = b by omega)]; exact (hcp a ha).2.2.2.symm)))
          · skip
            refine k_aload_n F (pc := 146) 0 rfl dX4_compare_146 rfl ?_
            refine k_get F (pc := 147) (ref := RX4) (C := RX4) (T := TX4) (N := 15) (ci := 4) 0 12 dX4_compare_147 zin_X4_compare_X4 rfl rfl (by decide) zm_X4_compare_f39 rfl rfl ?_
            refine k_iconst F (pc := 150) ((nI 4)) dX4_compare_150 (by decide) ?_
            refine k_iload_n F (pc := 151) 2 rfl dX4_compare_151 rfl ?_
            refine k_iaddN F (pc := 152) dX4_compare_152 ?_
            refine k_lload F (pc := 153) 7 rfl dX4_compare_153 ?_
            refine k_lconst F (pc := 155) 1 dX4_compare_155 (by decide) ?_
            refine k_lsub F (pc := 156) dX4_compare_156 ?_
            refine k_last F (pc := 157) 10 (fun thi_9 => (wX4 E h cd n rt sc on lo hi non nlo nhi fl_2 tlo2 thi_9 le gr)) dX4_compare_157 rfl (by omega) (by decide) (fun _ => rfl) (fun thi_9 ethi_9 => ?_)
            refine k_lv [(0, .ref (h 0)), (1, .int (nI p)), (2, .int (nI a)), (3, .int (nI b)), (4, .long (lo (4 * p + a))), (6, .long (hi (4 * p + a))), (8, .long (lo (4 * p + b))), (10, .long (hi (4 * p + b)))] [0, 1, 2, 3, 4, 5, 6, 7] rfl ?_
            exact J158 thi_9 (by first | exact updL_t (by assumption) (mn_t (by assumption)) | exact updL_f ((mn_f (by assumption)).trans (by rw [h2]; simp only [vp_updL, if_neg (show ¬ 4 + a = b by omega)]; exact (hcp a ha).2.2.2.symm)))
        refine k_aload_n F (pc := 98) 0 rfl dX4_compare_98 rfl ?_
        refine k_get F (pc := 99) (ref := RX4) (C := RX4) (T := TX4) (N := 15) (ci := 4) 0 11 dX4_compare_99 zin_X4_compare_X4 rfl rfl (by decide) zm_X4_compare_f36 rfl rfl ?_
        refine k_iload_n F (pc := 102) 2 rfl dX4_compare_102 rfl ?_
        refine k_lald F (pc := 103) 9 dX4_compare_103 rfl (by omega) (by decide) ?_
        refine k_aload_n F (pc := 104) 0 rfl dX4_compare_104 rfl ?_
        refine k_get F (pc := 105) (ref := RX4) (C := RX4) (T := TX4) (N := 15) (ci := 4) 0 12 dX4_compare_105 zin_X4_compare_X4 rfl rfl (by decide) zm_X4_compare_f39 rfl rfl ?_
        refine k_iload_n F (pc := 108) 2 rfl dX4_compare_108 rfl ?_
        refine k_lald F (pc := 109) 10 dX4_compare_109 rfl (by omega) (by decide) ?_
        refine k_lcmp_gt F (pc := 110) 134 dX4_compare_110 dX4_compare_111 (by decide) (fun c_10 => ?_) (fun c_10 => ?_)
        · skip
          refine k_iconst F (pc := 134) ((nI 0)) dX4_compare_134 (by decide) ?_
          refine k_lv [(0, .ref (h 0)), (1, .int (nI p)), (2, .int (nI a)), (3, .int (nI b)), (4, .long (lo (4 * p + a))), (6, .long (hi (4 * p + a))), (8, .long (lo (4 * p + b))), (10, .long (hi (4 * p + b)))] [0, 1, 2, 3, 4, 5, 6, 7] rfl ?_
          exact J135 false (by first | exact ⟨fun _ => ⟨by assumption, by assumption⟩, fun _ => rfl⟩ | exact ⟨fun h => absurd h (by decide), fun h => absurd (by assumption) h.1⟩ | exact ⟨fun h => absurd h (by decide), fun h => absurd (by assumption) h.2⟩)
        · skip
          refine k_aload_n F (pc := 114) 0 rfl dX4_compare_114 rfl ?_
          refine k_get F (pc := 115) (ref := RX4) (C := RX4) (T := TX4) (N := 15) (ci := 4) 0 11 dX4_compare_115 zin_X4_compare_X4 rfl rfl (by decide) zm_X4_compare_f36 rfl rfl ?_
          refine k_iload_n F (pc := 118) 3 rfl dX4_compare_118 rfl ?_
          refine k_lald F (pc := 119) 9 dX4_compare_119 rfl (by omega) (by decide) ?_
          refine k_aload_n F (pc := 120) 0 rfl dX4_compare_120 rfl ?_
          refine k_get F (pc := 121) (ref := RX4) (C := RX4) (T := TX4) (N := 15) (ci := 4) 0 12 dX4_compare_121 zin_X4_compare_X4 rfl rfl (by decide) zm_X4_compare_f39 rfl rfl ?_
          refine k_iload_n F (pc := 124) 3 rfl dX4_compare_124 rfl ?_
          refine k_lald F (pc := 125) 10 dX4_compare_125 rfl (by omega) (by decide) ?_
          refine k_lcmp_gt F (pc := 126) 134 dX4_compare_126 dX4_compare_127 (by decide) (fun c_11 => ?_) (fun c_11 => ?_)
          · skip
            refine k_iconst F (pc := 134) ((nI 0)) dX4_compare_134 (by decide) ?_
            refine k_lv [(0, .ref (h 0)), (1, .int (nI p)), (2, .int (nI a)), (3, .int (nI b)), (4, .long (lo (4 * p + a))), (6, .long (hi (4 * p + a))), (8, .long (lo (4 * p + b))), (10, .long (hi (4 * p + b)))] [0, 1, 2, 3, 4, 5, 6, 7] rfl ?_
            exact J135 false (by first | exact ⟨fun _ => ⟨by assumption, by assumption⟩, fun _ => rfl⟩ | exact ⟨fun h => absurd h (by decide), fun h => absurd (by assumption) h.1⟩ | exact ⟨fun h => absurd h (by decide), fun h => absurd (by assumption) h.2⟩)
          · skip
            refine k_iconst F (pc := 130) ((nI 1)) dX4_compare_130 (by decide) ?_
            refine k_goto F (pc := 131) 135 dX4_compare_131 (by decide) ?_
            refine k_lv [(0, .ref (h 0)), (1, .int (nI p)), (2, .int (nI a)), (3, .int (nI b)), (4, .long (lo (4 * p + a))), (6, .long (hi (4 * p + a))), (8, .long (lo (4 * p + b))), (10, .long (hi (4 * p + b)))] [0, 1, 2, 3, 4, 5, 6, 7] rfl ?_
            exact J135 true (by first | exact ⟨fun _ => ⟨by assumption, by assumption⟩, fun _ => rfl⟩ | exact ⟨fun h => absurd h (by decide), fun h => absurd (by assumption) h.1⟩ | exact ⟨fun h => absurd h (by decide), fun h => absurd (by assumption) h.2⟩)
      refine k_lload F (pc := 77) 5 rfl dX4_compare_77 ?_
      refine k_lload F (pc := 79) 7 rfl dX4_compare_79 ?_
      refine k_lcmp_ge F (pc := 81) 93 dX4_compare_81 dX4_compare_82 (by decide) (fun c_12 => ?_) (fun c_12 => ?_)
      · skip
        refine k_lv [(0, .ref (h 0)), (1, .int (nI p)), (2, .int (nI a)), (3, .int (nI b)), (4, .long (lo (4 * p + a))), (6, .long (hi (4 * p + a))), (8, .long (lo (4 * p + b))), (10, .long (hi (4 * p + b)))] [0, 1, 2, 3, 4, 5, 6, 7] rfl ?_
        exact J93 thi (by first | exact updL_t (by assumption) (mn_t (by assumption)) | exact updL_f ((mn_f (by assumption)).trans (hcp b hb).2.1.symm))
      · skip
        refine k_aload_n F (pc := 85) 0 rfl dX4_compare_85 rfl ?_
        refine k_get F (pc := 86) (ref := RX4) (C := RX4) (T := TX4) (N := 15) (ci := 4) 0 12 dX4_compare_86 zin_X4_compare_X4 rfl rfl (by decide) zm_X4_compare_f39 rfl rfl ?_
        refine k_iload_n F (pc := 89) 3 rfl dX4_compare_89 rfl ?_
        refine k_lload F (pc := 90) 5 rfl dX4_compare_90 ?_
        refine k_last F (pc := 92) 10 (fun thi_13 => (wX4 E h cd n rt sc on lo hi non nlo nhi fl tlo2 thi_13 le gr)) dX4_compare_92 rfl (by omega) (by decide) (fun _ => rfl) (fun thi_13 ethi_13 => ?_)
        refine k_lv [(0, .ref (h 0)), (1, .int (nI p)), (2, .int (nI a)), (3, .int (nI b)), (4, .long (lo (4 * p + a))), (6, .long (hi (4 * p + a))), (8, .long (lo (4 * p + b))), (10, .long (hi (4 * p + b)))] [0, 1, 2, 3, 4, 5, 6, 7] rfl ?_
        exact J93 thi_13 (by first | exact updL_t (by assumption) (mn_t (by assumption)) | exact updL_f ((mn_f (by assumption)).trans (hcp b hb).2.1.symm))
    refine k_lload F (pc := 61) 1 rfl dX4_compare_61 ?_
    refine k_lload F (pc := 63) 3 rfl dX4_compare_63 ?_
    refine k_lcmp_le F (pc := 65) 77 dX4_compare_65 dX4_compare_66 (by decide) (fun c_14 => ?_) (fun c_14 => ?_)
    · skip
      refine k_lv [(0, .ref (h 0)), (1, .int (nI p)), (2, .int (nI a)), (3, .int (nI b)), (4, .long (lo (4 * p + a))), (6, .long (hi (4 * p + a))), (8, .long (lo (4 * p + b))), (10, .long (hi (4 * p + b)))] [4, 5, 6, 7, 3, 2, 1, 0] rfl ?_
      exact J77 tlo (by first | exact updL_t (by assumption) (mx_t (by assumption)) | exact updL_f ((mx_f (by assumption)).trans (hcp a ha).1.symm))
    · skip
      refine k_aload_n F (pc := 69) 4 rfl dX4_compare_69 rfl ?_
      refine k_get F (pc := 70) (ref := RX4) (C := RX4) (T := TX4) (N := 15) (ci := 4) 0 11 dX4_compare_70 zin_X4_compare_X4 rfl rfl (by decide) zm_X4_compare_f36 rfl rfl ?_
      refine k_iload_n F (pc := 73) 6 rfl dX4_compare_73 rfl ?_
      refine k_lload F (pc := 74) 1 rfl dX4_compare_74 ?_
      refine k_last F (pc := 76) 9 (fun tlo_15 => (wX4 E h cd n rt sc on lo hi non nlo nhi fl tlo_15 thi le gr)) dX4_compare_76 rfl (by omega) (by decide) (fun _ => rfl) (fun tlo_15 etlo_15 => ?_)
      refine k_lv [(0, .ref (h 0)), (1, .int (nI p)), (2, .int (nI a)), (3, .int (nI b)), (4, .long (lo (4 * p + a))), (6, .long (hi (4 * p + a))), (8, .long (lo (4 * p + b))), (10, .long (hi (4 * p + b)))] [4, 5, 6, 7, 3, 2, 1, 0] rfl ?_
      exact J77 tlo_15 (by first | exact updL_t (by assumption) (mx_t (by assumption)) | exact updL_f ((mx_f (by assumption)).trans (hcp a ha).1.symm))
  · skip
    have hab : a = b := by omega
    refine k_aload_n F (pc := 5) 0 rfl dX4_compare_5 rfl ?_
    refine k_get F (pc := 6) (ref := RX4) (C := RX4) (T := TX4) (N := 15) (ci := 4) 0 10 dX4_compare_6 zin_X4_compare_X4 rfl rfl (by decide) zm_X4_compare_f33 rfl rfl ?_
    refine k_iconst F (pc := 9) ((nI 1)) dX4_compare_9 (by decide) ?_
    refine k_iconst F (pc := 10) ((nI 0)) dX4_compare_10 (by decide) ?_
    refine k_zast F (pc := 11) false 8 (fun fl_16 => (wX4 E h cd n rt sc on lo hi non nlo nhi fl_16 tlo thi le gr)) dX4_compare_11 rfl rfl (by omega) (by decide) (fun _ => rfl) (fun fl_16 efl_16 => ?_)
    refine k_vret F Rr (pc := 12) dX4_compare_12 ⟨fl_16, tlo, thi, rfl, rfl, ?_⟩
    rw [if_pos hab, if_pos hab]
    refine ⟨frep_b (v := true) (by simp [*, upB]) (cp_rep (fun v hv => ⟨(hcp v hv).1, (hcp v hv).2.1⟩) hR), frep_b (v := false) (by simp [*, upB]) frep_none⟩
