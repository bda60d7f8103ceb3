set_option maxHeartbeats 4000000 in
set_option maxRecDepth 100000 in
theorem m_X4_within (l : Launch) (E : kE) (x : Int32) (y : Int32) (yi : Int) (hyi : y.toInt = yi) : kC l yX4_within wsX4_within ({ frames := 0, cells := 0, slots := 0, locals := 0 } : Room) E [.int x, .int y] [] 0 0 (fun v_ w_ => w_ = [] ∧ ∃ (r : Bool), v_ = some (.int (bI r)) ∧ (r = true ↔ 0 ≤ x.toInt ∧ x.toInt ≤ yi)) := by
  refine kC.enter cX4_within 2 (some .boolean) [(0, .int x), (1, .int y)] (by decide) rfl (Nat.le_of_ble_eq_true rfl) rfl ?_
  intro g F Rr
  refine k_iload_n F (pc := 0) 0 rfl dX4_within_0 rfl ?_
  refine k_if_lt F (pc := 1) 13 dX4_within_1 (by decide) rfl (fun c_1 => ?_) (fun c_1 => ?_)
  · skip
    refine k_iconst F (pc := 13) ((nI 0)) dX4_within_13 (by decide) ?_
    refine k_zret F Rr (pc := 14) false dX4_within_14 rfl ⟨rfl, false, rfl, ?_⟩
    first
    | exact ⟨fun _ => by omega, fun _ => rfl⟩
    | exact ⟨fun h => absurd h (by decide), fun h => by exfalso; omega⟩
  · skip
    refine k_iload_n F (pc := 4) 0 rfl dX4_within_4 rfl ?_
    refine k_iload_n F (pc := 5) 1 rfl dX4_within_5 rfl ?_
    refine k_icmp_gt F (pc := 6) 13 dX4_within_6 (by decide) rfl rfl (fun c_2 => ?_) (fun c_2 => ?_)
    · skip
      refine k_iconst F (pc := 13) ((nI 0)) dX4_within_13 (by decide) ?_
      refine k_zret F Rr (pc := 14) false dX4_within_14 rfl ⟨rfl, false, rfl, ?_⟩
      first
      | exact ⟨fun _ => by omega, fun _ => rfl⟩
      | exact ⟨fun h => absurd h (by decide), fun h => by exfalso; omega⟩
    · skip
      refine k_iconst F (pc := 9) ((nI 1)) dX4_within_9 (by decide) ?_
      refine k_goto F (pc := 10) 14 dX4_within_10 (by decide) ?_
      refine k_zret F Rr (pc := 14) true dX4_within_14 rfl ⟨rfl, true, rfl, ?_⟩
      first
      | exact ⟨fun _ => by omega, fun _ => rfl⟩
      | exact ⟨fun h => absurd h (by decide), fun h => by exfalso; omega⟩
set_option maxHeartbeats 4000000 in
set_option maxRecDepth 100000 in
theorem m_X4_fits (l : Launch) (E : kE) (o : Int32) (a : Int32) (b : Int32) (c : Int32)  : kC l yX4_fits wsX4_fits ({ frames := 1, cells := 0, slots := 0, locals := 21 } : Room) E [.int o, .int a, .int b, .int c] [] 0 0 (fun v_ w_ => w_ = [] ∧ ∃ (r : Bool), v_ = some (.int (bI r)) ∧ (r = true ↔ okI o a b c)) := by
  refine kC.enter cX4_fits 4 (some .boolean) [(0, .int o), (1, .int a), (2, .int b), (3, .int c)] (by decide) rfl (Nat.le_of_ble_eq_true rfl) rfl ?_
  intro g F Rr
  refine k_iload_n F (pc := 0) 0 rfl dX4_fits_0 rfl ?_
  refine k_bipush F (pc := 1) ((nI 11)) dX4_fits_1 (by decide) ?_
  refine k_callS F (pc := 3) [.int o, .int (nI 11)] [] 2 (m_X4_within l E o (nI 11) (11 : Int) (show (nI 11 : Int32).toInt = 11 by decide)) dX4_fits_3 gX4_fits_X4_within rfl (by decide +kernel) rfl ⟨rfl, rfl⟩ (by decide) rfl (Nat.le_of_ble_eq_true rfl) (by decide) ?_
  rintro v_3 ⟨r_1, rfl, hc_2⟩
  show kK g [] [(0, .int o), (1, .int a), (2, .int b), (3, .int c)] 0 0 6 [.int (bI r_1)]
  refine k_if_neB F (pc := 6) 11 dX4_fits_6 (by decide) (fun c_5 => ?_) (fun c_5 => ?_)
  · skip
    have hb_6 := hc_2.mp c_5
    have J31 : ((1 ≤ o.toInt ∧ o.toInt ≤ 9 ∨ o.toInt = 11) → 0 ≤ a.toInt ∧ a.toInt ≤ 3) → kK g [] [(0, .int o), (1, .int a), (2, .int b), (3, .int c)] 0 0 31 [] := by
      intro hA
      have J52 : (2 ≤ o.toInt ∧ o.toInt ≤ 9 → 0 ≤ b.toInt ∧ b.toInt ≤ 3) → kK g [] [(0, .int o), (1, .int a), (2, .int b), (3, .int c)] 0 0 52 [] := by
        intro hB
        have J73 : (3 ≤ o.toInt ∧ o.toInt ≤ 6 → 0 ≤ c.toInt ∧ c.toInt ≤ 3) → kK g [] [(0, .int o), (1, .int a), (2, .int b), (3, .int c)] 0 0 73 [] := by
          intro hC
          refine k_iload_n F (pc := 73) 0 rfl dX4_fits_73 rfl ?_
          refine k_bipush F (pc := 74) ((nI 9)) dX4_fits_74 (by decide) ?_
          refine k_icmp_eq F (pc := 76) 85 dX4_fits_76 (by decide) rfl (show (nI 9 : Int32).toInt = 9 by decide) (fun c_7 => ?_) (fun c_7 => ?_)
          · skip
            refine k_iload_n F (pc := 85) 3 rfl dX4_fits_85 rfl ?_
            refine k_bipush F (pc := 86) ((nI 23)) dX4_fits_86 (by decide) ?_
            refine k_callS F (pc := 88) [.int c, .int (nI 23)] [] 2 (m_X4_within l E c (nI 23) (23 : Int) (show (nI 23 : Int32).toInt = 23 by decide)) dX4_fits_88 gX4_fits_X4_within rfl (by decide +kernel) rfl ⟨rfl, rfl⟩ (by decide) rfl (Nat.le_of_ble_eq_true rfl) (by decide) ?_
            rintro v_10 ⟨r_8, rfl, hc_9⟩
            show kK g [] [(0, .int o), (1, .int a), (2, .int b), (3, .int c)] 0 0 91 [.int (bI r_8)]
            refine k_if_eqB F (pc := 91) 98 dX4_fits_91 (by decide) (fun c_12 => ?_) (fun c_12 => ?_)
            · skip
              have hb_13 := k_ff hc_9 c_12
              refine k_iconst F (pc := 98) ((nI 0)) dX4_fits_98 (by decide) ?_
              refine k_zret F Rr (pc := 99) false dX4_fits_99 rfl ⟨rfl, false, rfl, ?_⟩
              unfold okI
              first
              | exact ⟨fun _ => by omega, fun _ => rfl⟩
              | exact ⟨fun h => absurd h (by decide), fun h => by exfalso; omega⟩
            · skip
              have hb_14 := hc_9.mp c_12
              refine k_iconst F (pc := 94) ((nI 1)) dX4_fits_94 (by decide) ?_
              refine k_goto F (pc := 95) 99 dX4_fits_95 (by decide) ?_
              refine k_zret F Rr (pc := 99) true dX4_fits_99 rfl ⟨rfl, true, rfl, ?_⟩
              unfold okI
              first
              | exact ⟨fun _ => by omega, fun _ => rfl⟩
              | exact ⟨fun h => absurd h (by decide), fun h => by exfalso; omega⟩
          · skip
            refine k_iload_n F (pc := 79) 0 rfl dX4_fits_79 rfl ?_
            refine k_bipush F (pc := 80) ((nI 10)) dX4_fits_80 (by decide) ?_
            refine k_icmp_ne F (pc := 82) 94 dX4_fits_82 (by decide) rfl (show (nI 10 : Int32).toInt = 10 by decide) (fun c_15 => ?_) (fun c_15 => ?_)
            · skip
              refine k_iconst F (pc := 94) ((nI 1)) dX4_fits_94 (by decide) ?_
              refine k_goto F (pc := 95) 99 dX4_fits_95 (by decide) ?_
              refine k_zret F Rr (pc := 99) true dX4_fits_99 rfl ⟨rfl, true, rfl, ?_⟩
              unfold okI
              first
              | exact ⟨fun _ => by omega, fun _ => rfl⟩
              | exact ⟨fun h => absurd h (by decide), fun h => by exfalso; omega⟩
            · skip
              refine k_iload_n F (pc := 85) 3 rfl dX4_fits_85 rfl ?_
              refine k_bipush F (pc := 86) ((nI 23)) dX4_fits_86 (by decide) ?_
              refine k_callS F (pc := 88) [.int c, .int (nI 23)] [] 2 (m_X4_within l E c (nI 23) (23 : Int) (show (nI 23 : Int32).toInt = 23 by decide)) dX4_fits_88 gX4_fits_X4_within rfl (by decide +kernel) rfl ⟨rfl, rfl⟩ (by decide) rfl (Nat.le_of_ble_eq_true rfl) (by decide) ?_
              rintro v_18 ⟨r_16, rfl, hc_17⟩
              show kK g [] [(0, .int o), (1, .int a), (2, .int b), (3, .int c)] 0 0 91 [.int (bI r_16)]
              refine k_if_eqB F (pc := 91) 98 dX4_fits_91 (by decide) (fun c_20 => ?_) (fun c_20 => ?_)
              · skip
                have hb_21 := k_ff hc_17 c_20
                refine k_iconst F (pc := 98) ((nI 0)) dX4_fits_98 (by decide) ?_
                refine k_zret F Rr (pc := 99) false dX4_fits_99 rfl ⟨rfl, false, rfl, ?_⟩
                unfold okI
                first
                | exact ⟨fun _ => by omega, fun _ => rfl⟩
                | exact ⟨fun h => absurd h (by decide), fun h => by exfalso; omega⟩
              · skip
                have hb_22 := hc_17.mp c_20
                refine k_iconst F (pc := 94) ((nI 1)) dX4_fits_94 (by decide) ?_
                refine k_goto F (pc := 95) 99 dX4_fits_95 (by decide) ?_
                refine k_zret F Rr (pc := 99) true dX4_fits_99 rfl ⟨rfl, true, rfl, ?_⟩
                unfold okI
                first
                | exact ⟨fun _ => by omega, fun _ => rfl⟩
                | exact ⟨fun h => absurd h (by decide), fun h => by exfalso; omega⟩
        refine k_iload_n F (pc := 52) 0 rfl dX4_fits_52 rfl ?_
        refine k_iconst F (pc := 53) ((nI 3)) dX4_fits_53 (by decide) ?_
        refine k_icmp_lt F (pc := 54) 73 dX4_fits_54 (by decide) rfl (show (nI 3 : Int32).toInt = 3 by decide) (fun c_23 => ?_) (fun c_23 => ?_)
        · skip
          refine k_lv [(0, .int o), (1, .int a), (2, .int b), (3, .int c)] [0, 1, 2, 3] rfl ?_
          exact J73  (by omega)
        · skip
          refine k_iload_n F (pc := 57) 0 rfl dX4_fits_57 rfl ?_
          refine k_bipush F (pc := 58) ((nI 6)) dX4_fits_58 (by decide) ?_
          refine k_icmp_gt F (pc := 60) 73 dX4_fits_60 (by decide) rfl (show (nI 6 : Int32).toInt = 6 by decide) (fun c_24 => ?_) (fun c_24 => ?_)
          · skip
            refine k_lv [(0, .int o), (1, .int a), (2, .int b), (3, .int c)] [0, 1, 2, 3] rfl ?_
            exact J73  (by omega)
          · skip
            refine k_iload_n F (pc := 63) 3 rfl dX4_fits_63 rfl ?_
            refine k_iconst F (pc := 64) ((nI 3)) dX4_fits_64 (by decide) ?_
            refine k_callS F (pc := 65) [.int c, .int (nI 3)] [] 2 (m_X4_within l E c (nI 3) (3 : Int) (show (nI 3 : Int32).toInt = 3 by decide)) dX4_fits_65 gX4_fits_X4_within rfl (by decide +kernel) rfl ⟨rfl, rfl⟩ (by decide) rfl (Nat.le_of_ble_eq_true rfl) (by decide) ?_
            rintro v_27 ⟨r_25, rfl, hc_26⟩
            show kK g [] [(0, .int o), (1, .int a), (2, .int b), (3, .int c)] 0 0 68 [.int (bI r_25)]
            refine k_if_neB F (pc := 68) 73 dX4_fits_68 (by decide) (fun c_29 => ?_) (fun c_29 => ?_)
            · skip
              have hb_30 := hc_26.mp c_29
              refine k_lv [(0, .int o), (1, .int a), (2, .int b), (3, .int c)] [0, 1, 2, 3] rfl ?_
              exact J73  (by omega)
            · skip
              have hb_31 := k_ff hc_26 c_29
              refine k_iconst F (pc := 71) ((nI 0)) dX4_fits_71 (by decide) ?_
              refine k_zret F Rr (pc := 72) false dX4_fits_72 rfl ⟨rfl, false, rfl, ?_⟩
              unfold okI
              first
              | exact ⟨fun _ => by omega, fun _ => rfl⟩
              | exact ⟨fun h => absurd h (by decide), fun h => by exfalso; omega⟩
      refine k_iload_n F (pc := 31) 0 rfl dX4_fits_31 rfl ?_
      refine k_iconst F (pc := 32) ((nI 2)) dX4_fits_32 (by decide) ?_
      refine k_icmp_lt F (pc := 33) 52 dX4_fits_33 (by decide) rfl (show (nI 2 : Int32).toInt = 2 by decide) (fun c_32 => ?_) (fun c_32 => ?_)
      · skip
        refine k_lv [(0, .int o), (1, .int a), (2, .int b), (3, .int c)] [0, 1, 2, 3] rfl ?_
        exact J52  (by omega)
      · skip
        refine k_iload_n F (pc := 36) 0 rfl dX4_fits_36 rfl ?_
        refine k_bipush F (pc := 37) ((nI 9)) dX4_fits_37 (by decide) ?_
        refine k_icmp_gt F (pc := 39) 52 dX4_fits_39 (by decide) rfl (show (nI 9 : Int32).toInt = 9 by decide) (fun c_33 => ?_) (fun c_33 => ?_)
        · skip
          refine k_lv [(0, .int o), (1, .int a), (2, .int b), (3, .int c)] [0, 1, 2, 3] rfl ?_
          exact J52  (by omega)
        · skip
          refine k_iload_n F (pc := 42) 2 rfl dX4_fits_42 rfl ?_
          refine k_iconst F (pc := 43) ((nI 3)) dX4_fits_43 (by decide) ?_
          refine k_callS F (pc := 44) [.int b, .int (nI 3)] [] 2 (m_X4_within l E b (nI 3) (3 : Int) (show (nI 3 : Int32).toInt = 3 by decide)) dX4_fits_44 gX4_fits_X4_within rfl (by decide +kernel) rfl ⟨rfl, rfl⟩ (by decide) rfl (Nat.le_of_ble_eq_true rfl) (by decide) ?_
          rintro v_36 ⟨r_34, rfl, hc_35⟩
          show kK g [] [(0, .int o), (1, .int a), (2, .int b), (3, .int c)] 0 0 47 [.int (bI r_34)]
          refine k_if_neB F (pc := 47) 52 dX4_fits_47 (by decide) (fun c_38 => ?_) (fun c_38 => ?_)
          · skip
            have hb_39 := hc_35.mp c_38
            refine k_lv [(0, .int o), (1, .int a), (2, .int b), (3, .int c)] [0, 1, 2, 3] rfl ?_
            exact J52  (by omega)
          · skip
            have hb_40 := k_ff hc_35 c_38
            refine k_iconst F (pc := 50) ((nI 0)) dX4_fits_50 (by decide) ?_
            refine k_zret F Rr (pc := 51) false dX4_fits_51 rfl ⟨rfl, false, rfl, ?_⟩
            unfold okI
            first
            | exact ⟨fun _ => by omega, fun _ => rfl⟩
            | exact ⟨fun h => absurd h (by decide), fun h => by exfalso; omega⟩
    refine k_iload_n F (pc := 11) 0 rfl dX4_fits_11 rfl ?_
    refine k_if_eq F (pc := 12) 31 dX4_fits_12 (by decide) rfl (fun c_41 => ?_) (fun c_41 => ?_)
    · skip
      refine k_lv [(0, .int o), (1, .int a), (2, .int b), (3, .int c)] [0, 1, 2, 3] rfl ?_
      exact J31  (by omega)
    · skip
      refine k_iload_n F (pc := 15) 0 rfl dX4_fits_15 rfl ?_
      refine k_bipush F (pc := 16) ((nI 10)) dX4_fits_16 (by decide) ?_
      refine k_icmp_eq F (pc := 18) 31 dX4_fits_18 (by decide) rfl (show (nI 10 : Int32).toInt = 10 by decide) (fun c_42 => ?_) (fun c_42 => ?_)
      · skip
        refine k_lv [(0, .int o), (1, .int a), (2, .int b), (3, .int c)] [0, 1, 2, 3] rfl ?_
        exact J31  (by omega)
      · skip
        refine k_iload_n F (pc := 21) 1 rfl dX4_fits_21 rfl ?_
        refine k_iconst F (pc := 22) ((nI 3)) dX4_fits_22 (by decide) ?_
        refine k_callS F (pc := 23) [.int a, .int (nI 3)] [] 2 (m_X4_within l E a (nI 3) (3 : Int) (show (nI 3 : Int32).toInt = 3 by decide)) dX4_fits_23 gX4_fits_X4_within rfl (by decide +kernel) rfl ⟨rfl, rfl⟩ (by decide) rfl (Nat.le_of_ble_eq_true rfl) (by decide) ?_
        rintro v_45 ⟨r_43, rfl, hc_44⟩
        show kK g [] [(0, .int o), (1, .int a), (2, .int b), (3, .int c)] 0 0 26 [.int (bI r_43)]
        refine k_if_neB F (pc := 26) 31 dX4_fits_26 (by decide) (fun c_47 => ?_) (fun c_47 => ?_)
        · skip
          have hb_48 := hc_44.mp c_47
          refine k_lv [(0, .int o), (1, .int a), (2, .int b), (3, .int c)] [0, 1, 2, 3] rfl ?_
          exact J31  (by omega)
        · skip
          have hb_49 := k_ff hc_44 c_47
          refine k_iconst F (pc := 29) ((nI 0)) dX4_fits_29 (by decide) ?_
          refine k_zret F Rr (pc := 30) false dX4_fits_30 rfl ⟨rfl, false, rfl, ?_⟩
          unfold okI
          first
          | exact ⟨fun _ => by omega, fun _ => rfl⟩
          | exact ⟨fun h => absurd h (by decide), fun h => by exfalso; omega⟩
  · skip
    have hb_50 := k_ff hc_2 c_5
    refine k_iconst F (pc := 9) ((nI 0)) dX4_fits_9 (by decide) ?_
    refine k_zret F Rr (pc := 10) false dX4_fits_10 rfl ⟨rfl, false, rfl, ?_⟩
    unfold okI
    first
    | exact ⟨fun _ => by omega, fun _ => rfl⟩
    | exact ⟨fun h => absurd h (by decide), fun h => by exfalso; omega⟩
theorem zm_X4_forget_f57 : (Cond.fieldLink RX4 57 RX4 "scanned" "Z" : Cond) ∈ wsX4_forget := by decide +kernel
theorem zin_X4_forget_X4 : ∀ w ∈ u_ws RX4 TX4 15, w ∈ wsX4_forget := by decide +kernel
theorem zm_X4_forget_f61 : (Cond.fieldLink RX4 61 RX4 "rounds" "I" : Cond) ∈ wsX4_forget := by decide +kernel
set_option maxHeartbeats 4000000 in
set_option maxRecDepth 100000 in
theorem m_X4_forget (l : Launch) (E : kE) (h : Nat → Nat) (cd : Nat → Int32) (n : Nat) (rt : Nat) (sc : Bool) (on : Nat → Bool) (lo : Nat → Int64) (hi : Nat → Int64) (non : Nat → Bool) (nlo : Nat → Int64) (nhi : Nat → Int64) (fl : Nat → Bool) (tlo : Nat → Int64) (thi : Nat → Int64) (le : Int64) (gr : Int64)  : kC l yX4_forget wsX4_forget ({ frames := 0, cells := 0, slots := 0, locals := 0 } : Room) E [.ref (h 0)] (wX4 E h cd n rt sc on lo hi non nlo nhi fl tlo thi le gr) 0 0 (fun v_ w_ => v_ = none ∧ w_ = (wX4 E h cd n 0 false on lo hi non nlo nhi fl tlo thi le gr)) := by
  refine kC.enter cX4_forget 1 none [(0, .ref (h 0))] (by decide) rfl (Nat.le_of_ble_eq_true rfl) rfl ?_
  intro g F Rr
  refine k_aload_n F (pc := 0) 0 rfl dX4_forget_0 rfl ?_
  refine k_iconst F (pc := 1) ((nI 0)) dX4_forget_1 (by decide) ?_
  refine k_put F (pc := 2) (ref := RX4) (C := RX4) (T := TX4) (N := 15) (ci := 4) (ty := .boolean) (v := .int (bI false)) tyX4 0 3 (wX4 E h cd n rt false on lo hi non nlo nhi fl tlo thi le gr) dX4_forget_2 zin_X4_forget_X4 tyX4_ok nmX4 rfl rfl (by decide) zm_X4_forget_f57 rfl rfl (by decide +kernel) rfl rfl (Nat.le_of_ble_eq_true rfl) rfl ?_
  refine k_aload_n F (pc := 5) 0 rfl dX4_forget_5 rfl ?_
  refine k_iconst F (pc := 6) ((nI 0)) dX4_forget_6 (by decide) ?_
  refine k_put F (pc := 7) (ref := RX4) (C := RX4) (T := TX4) (N := 15) (ci := 4) (ty := .int) (v := .int (nI 0)) tyX4 0 2 (wX4 E h cd n 0 false on lo hi non nlo nhi fl tlo thi le gr) dX4_forget_7 zin_X4_forget_X4 tyX4_ok nmX4 rfl rfl (by decide) zm_X4_forget_f61 rfl rfl (by decide +kernel) rfl rfl (Nat.le_of_ble_eq_true rfl) rfl ?_
  exact k_vret F Rr (pc := 10) dX4_forget_10 ⟨rfl, rfl⟩
theorem zm_X4_clear_f42 : (Cond.fieldLink RX4 42 RX4 "n" "I" : Cond) ∈ wsX4_clear := by decide +kernel
theorem zin_X4_clear_X4 : ∀ w ∈ u_ws RX4 TX4 15, w ∈ wsX4_clear := by decide +kernel
set_option maxHeartbeats 4000000 in
set_option maxRecDepth 100000 in
theorem m_X4_clear (l : Launch) (E : kE) (h : Nat → Nat) (cd : Nat → Int32) (n : Nat) (rt : Nat) (sc : Bool) (on : Nat → Bool) (lo : Nat → Int64) (hi : Nat → Int64) (non : Nat → Bool) (nlo : Nat → Int64) (nhi : Nat → Int64) (fl : Nat → Bool) (tlo : Nat → Int64) (thi : Nat → Int64) (le : Int64) (gr : Int64)  : kC l yX4_clear wsX4_clear ({ frames := 1, cells := 0, slots := 0, locals := 20 } : Room) E [.ref (h 0)] (wX4 E h cd n rt sc on lo hi non nlo nhi fl tlo thi le gr) 0 0 (fun v_ w_ => v_ = none ∧ w_ = (wX4 E h cd 0 0 false on lo hi non nlo nhi fl tlo thi le gr)) := by
  refine kC.enter cX4_clear 1 none [(0, .ref (h 0))] (by decide) rfl (Nat.le_of_ble_eq_true rfl) rfl ?_
  intro g F Rr
  refine k_aload_n F (pc := 0) 0 rfl dX4_clear_0 rfl ?_
  refine k_iconst F (pc := 1) ((nI 0)) dX4_clear_1 (by decide) ?_
  refine k_put F (pc := 2) (ref := RX4) (C := RX4) (T := TX4) (N := 15) (ci := 4) (ty := .int) (v := .int (nI 0)) tyX4 0 1 (wX4 E h cd 0 rt sc on lo hi non nlo nhi fl tlo thi le gr) dX4_clear_2 zin_X4_clear_X4 tyX4_ok nmX4 rfl rfl (by decide) zm_X4_clear_f42 rfl rfl (by decide +kernel) rfl rfl (Nat.le_of_ble_eq_true rfl) rfl ?_
  refine k_aload_n F (pc := 5) 0 rfl dX4_clear_5 rfl ?_
  refine k_callV F (pc := 6) (C := RX4) (T := TX4) (N := 15) (ci := 4) [] [] 0 (wX4 E h cd 0 rt sc on lo hi non nlo nhi fl tlo thi le gr) [] [0, 1, 2, 3, 4, 5, 6, 7, 8, 9, 10] [] (m_X4_forget l E h cd 0 rt sc on lo hi non nlo nhi fl tlo thi le gr) dX4_clear_6 gX4_clear_X4_forget rfl (by decide +kernel) rfl ⟨rfl, rfl⟩ (by decide) rfl (Nat.le_of_ble_eq_true rfl) (by decide) rfl rfl rfl rfl (by decide) (by decide) (by decide) ?_
  rintro v_1 w_2 ⟨rfl, rfl⟩
  refine k_perm (wX4 E h cd 0 0 false on lo hi non nlo nhi fl tlo thi le gr) [0, 1, 2, 3, 4, 5, 6, 7, 8, 9, 10] (by decide) rfl ?_
  show kK g (wX4 E h cd 0 0 false on lo hi non nlo nhi fl tlo thi le gr) [(0, .ref (h 0))] 0 0 9 []
  exact k_vret F Rr (pc := 9) dX4_clear_9 ⟨rfl, rfl⟩
theorem zm_X4_size_f42 : (Cond.fieldLink RX4 42 RX4 "n" "I" : Cond) ∈ wsX4_size := by decide +kernel
theorem zin_X4_size_X4 : ∀ w ∈ u_ws RX4 TX4 15, w ∈ wsX4_size := by decide +kernel
set_option maxHeartbeats 4000000 in
set_option maxRecDepth 100000 in
theorem m_X4_size (l : Launch) (E : kE) (h : Nat → Nat) (cd : Nat → Int32) (n : Nat) (rt : Nat) (sc : Bool) (on : Nat → Bool) (lo : Nat → Int64) (hi : Nat → Int64) (non : Nat → Bool) (nlo : Nat → Int64) (nhi : Nat → Int64) (fl : Nat → Bool) (tlo : Nat → Int64) (thi : Nat → Int64) (le : Int64) (gr : Int64)  : kC l yX4_size wsX4_size ({ frames := 0, cells := 0, slots := 0, locals := 0 } : Room) E [.ref (h 0)] (wX4 E h cd n rt sc on lo hi non nlo nhi fl tlo thi le gr) 0 0 (fun v_ w_ => v_ = some (.int (nI n)) ∧ w_ = (wX4 E h cd n rt sc on lo hi non nlo nhi fl tlo thi le gr)) := by
  refine kC.enter cX4_size 1 (some .int) [(0, .ref (h 0))] (by decide) rfl (Nat.le_of_ble_eq_true rfl) rfl ?_
  intro g F Rr
  refine k_aload_n F (pc := 0) 0 rfl dX4_size_0 rfl ?_
  refine k_get F (pc := 1) (ref := RX4) (C := RX4) (T := TX4) (N := 15) (ci := 4) 0 1 dX4_size_1 zin_X4_size_X4 rfl rfl (by decide) zm_X4_size_f42 rfl rfl ?_
  exact k_iret F Rr (pc := 4) dX4_size_4 ⟨rfl, rfl⟩
theorem zm_X4_rounds_f61 : (Cond.fieldLink RX4 61 RX4 "rounds" "I" : Cond) ∈ wsX4_rounds := by decide +kernel
theorem zin_X4_rounds_X4 : ∀ w ∈ u_ws RX4 TX4 15, w ∈ wsX4_rounds := by decide +kernel
set_option maxHeartbeats 4000000 in
set_option maxRecDepth 100000 in
theorem m_X4_rounds (l : Launch) (E : kE) (h : Nat → Nat) (cd : Nat → Int32) (n : Nat) (rt : Nat) (sc : Bool) (on : Nat → Bool) (lo : Nat → Int64) (hi : Nat → Int64) (non : Nat → Bool) (nlo : Nat → Int64) (nhi : Nat → Int64) (fl : Nat → Bool) (tlo : Nat → Int64) (thi : Nat → Int64) (le : Int64) (gr : Int64)  : kC l yX4_rounds wsX4_rounds ({ frames := 0, cells := 0, slots := 0, locals := 0 } : Room) E [.ref (h 0)] (wX4 E h cd n rt sc on lo hi non nlo nhi fl tlo thi le gr) 0 0 (fun v_ w_ => v_ = some (.int (nI rt)) ∧ w_ = (wX4 E h cd n rt sc on lo hi non nlo nhi fl tlo thi le gr)) := by
  refine kC.enter cX4_rounds 1 (some .int) [(0, .ref (h 0))] (by decide) rfl (Nat.le_of_ble_eq_true rfl) rfl ?_
  intro g F Rr
  refine k_aload_n F (pc := 0) 0 rfl dX4_rounds_0 rfl ?_
  refine k_get F (pc := 1) (ref := RX4) (C := RX4) (T := TX4) (N := 15) (ci := 4) 0 2 dX4_rounds_1 zin_X4_rounds_X4 rfl rfl (by decide) zm_X4_rounds_f61 rfl rfl ?_
  exact k_iret F Rr (pc := 4) dX4_rounds_4 ⟨rfl, rfl⟩
theorem zm_X4_add_f42 : (Cond.fieldLink RX4 42 RX4 "n" "I" : Cond) ∈ wsX4_add := by decide +kernel
theorem zin_X4_add_X4 : ∀ w ∈ u_ws RX4 TX4 15, w ∈ wsX4_add := by decide +kernel
theorem zm_X4_add_f7 : (Cond.fieldLink RX4 7 RX4 "code" "[I" : Cond) ∈ wsX4_add := by decide +kernel
set_option maxHeartbeats 4000000 in
set_option maxRecDepth 100000 in
theorem m_X4_add (l : Launch) (E : kE) (h : Nat → Nat) (cd : Nat → Int32) (n : Nat) (rt : Nat) (sc : Bool) (on : Nat → Bool) (lo : Nat → Int64) (hi : Nat → Int64) (non : Nat → Bool) (nlo : Nat → Int64) (nhi : Nat → Int64) (fl : Nat → Bool) (tlo : Nat → Int64) (thi : Nat → Int64) (le : Int64) (gr : Int64) (o : Int32) (a : Int32) (b : Int32) (c : Int32) (hn : n ≤ 24) : kC l yX4_add wsX4_add ({ frames := 2, cells := 0, slots := 0, locals := 44 } : Room) E [.ref (h 0), .int o, .int a, .int b, .int c] (wX4 E h cd n rt sc on lo hi non nlo nhi fl tlo thi le gr) 0 0 (fun v_ w_ => ∃ (r : Int32) (cd1 : Nat → Int32) (n1 : Nat) (sc1 : Bool) (rt1 : Nat), v_ = some (.int r) ∧ w_ = (wX4 E h cd1 n1 rt1 sc1 on lo hi non nlo nhi fl tlo thi le gr) ∧ (addP cd n sc rt o a b c r cd1 n1 sc1 rt1)) := by
  refine kC.enter cX4_add 5 (some .int) [(0, .ref (h 0)), (1, .int o), (2, .int a), (3, .int b), (4, .int c)] (by decide) rfl (Nat.le_of_ble_eq_true rfl) rfl ?_
  intro g F Rr
  refine k_iload_n F (pc := 0) 1 rfl dX4_add_0 rfl ?_
  refine k_iload_n F (pc := 1) 2 rfl dX4_add_1 rfl ?_
  refine k_iload_n F (pc := 2) 3 rfl dX4_add_2 rfl ?_
  refine k_iload F (pc := 3) 4 rfl dX4_add_3 ?_
  refine k_callS F (pc := 5) [.int o, .int a, .int b, .int c] [] 4 (m_X4_fits l E o a b c) dX4_add_5 gX4_add_X4_fits rfl (by decide +kernel) rfl ⟨rfl, rfl⟩ (by decide) rfl (Nat.le_of_ble_eq_true rfl) (by decide) ?_
  rintro v_2 ⟨r_1, rfl, hfi⟩
  show kK g (wX4 E h cd n rt sc on lo hi non nlo nhi fl tlo thi le gr) [(0, .ref (h 0)), (1, .int o), (2, .int a), (3, .int b), (4, .int c)] 0 0 8 [.int (bI r_1)]
  refine k_if_neB F (pc := 8) 13 dX4_add_8 (by decide) (fun c_4 => ?_) (fun c_4 => ?_)
  · skip
    have hb_5 := hfi.mp c_4
    have hy := hfi.mp c_4
    refine k_aload_n F (pc := 13) 0 rfl dX4_add_13 rfl ?_
    refine k_get F (pc := 14) (ref := RX4) (C := RX4) (T := TX4) (N := 15) (ci := 4) 0 1 dX4_add_14 zin_X4_add_X4 rfl rfl (by decide) zm_X4_add_f42 rfl rfl ?_
    refine k_bipush F (pc := 17) ((nI 24)) dX4_add_17 (by decide) ?_
    refine k_icmp_ne F (pc := 19) 25 dX4_add_19 (by decide) (nI_toInt (by omega)) (show (nI 24 : Int32).toInt = 24 by decide) (fun c_6 => ?_) (fun c_6 => ?_)
    · skip
      refine k_aload_n F (pc := 25) 0 rfl dX4_add_25 rfl ?_
      refine k_get F (pc := 26) (ref := RX4) (C := RX4) (T := TX4) (N := 15) (ci := 4) 0 0 dX4_add_26 zin_X4_add_X4 rfl rfl (by decide) zm_X4_add_f7 rfl rfl ?_
      refine k_iconst F (pc := 29) ((nI 4)) dX4_add_29 (by decide) ?_
      refine k_aload_n F (pc := 30) 0 rfl dX4_add_30 rfl ?_
      refine k_get F (pc := 31) (ref := RX4) (C := RX4) (T := TX4) (N := 15) (ci := 4) 0 1 dX4_add_31 zin_X4_add_X4 rfl rfl (by decide) zm_X4_add_f42 rfl rfl ?_
      refine k_imulN F (pc := 34) dX4_add_34 ?_
      refine k_iload_n F (pc := 35) 1 rfl dX4_add_35 rfl ?_
      refine k_iast F (pc := 36) 1 (fun cd_7 => (wX4 E h cd_7 n rt sc on lo hi non nlo nhi fl tlo thi le gr)) dX4_add_36 rfl (by omega) (by decide) (fun _ => rfl) (fun cd_7 ecd_7 => ?_)
      refine k_aload_n F (pc := 37) 0 rfl dX4_add_37 rfl ?_
      refine k_get F (pc := 38) (ref := RX4) (C := RX4) (T := TX4) (N := 15) (ci := 4) 0 0 dX4_add_38 zin_X4_add_X4 rfl rfl (by decide) zm_X4_add_f7 rfl rfl ?_
      refine k_iconst F (pc := 41) ((nI 4)) dX4_add_41 (by decide) ?_
      refine k_aload_n F (pc := 42) 0 rfl dX4_add_42 rfl ?_
      refine k_get F (pc := 43) (ref := RX4) (C := RX4) (T := TX4) (N := 15) (ci := 4) 0 1 dX4_add_43 zin_X4_add_X4 rfl rfl (by decide) zm_X4_add_f42 rfl rfl ?_
      refine k_imulN F (pc := 46) dX4_add_46 ?_
      refine k_iconst F (pc := 47) ((nI 1)) dX4_add_47 (by decide) ?_
      refine k_iaddN F (pc := 48) dX4_add_48 ?_
      refine k_iload_n F (pc := 49) 2 rfl dX4_add_49 rfl ?_
      refine k_iast F (pc := 50) 1 (fun cd_8 => (wX4 E h cd_8 n rt sc on lo hi non nlo nhi fl tlo thi le gr)) dX4_add_50 rfl (by omega) (by decide) (fun _ => rfl) (fun cd_8 ecd_8 => ?_)
      refine k_aload_n F (pc := 51) 0 rfl dX4_add_51 rfl ?_
      refine k_get F (pc := 52) (ref := RX4) (C := RX4) (T := TX4) (N := 15) (ci := 4) 0 0 dX4_add_52 zin_X4_add_X4 rfl rfl (by decide) zm_X4_add_f7 rfl rfl ?_
      refine k_iconst F (pc := 55) ((nI 4)) dX4_add_55 (by decide) ?_
      refine k_aload_n F (pc := 56) 0 rfl dX4_add_56 rfl ?_
      refine k_get F (pc := 57) (ref := RX4) (C := RX4) (T := TX4) (N := 15) (ci := 4) 0 1 dX4_add_57 zin_X4_add_X4 rfl rfl (by decide) zm_X4_add_f42 rfl rfl ?_
      refine k_imulN F (pc := 60) dX4_add_60 ?_
      refine k_iconst F (pc := 61) ((nI 2)) dX4_add_61 (by decide) ?_
      refine k_iaddN F (pc := 62) dX4_add_62 ?_
      refine k_iload_n F (pc := 63) 3 rfl dX4_add_63 rfl ?_
      refine k_iast F (pc := 64) 1 (fun cd_9 => (wX4 E h cd_9 n rt sc on lo hi non nlo nhi fl tlo thi le gr)) dX4_add_64 rfl (by omega) (by decide) (fun _ => rfl) (fun cd_9 ecd_9 => ?_)
      refine k_aload_n F (pc := 65) 0 rfl dX4_add_65 rfl ?_
      refine k_get F (pc := 66) (ref := RX4) (C := RX4) (T := TX4) (N := 15) (ci := 4) 0 0 dX4_add_66 zin_X4_add_X4 rfl rfl (by decide) zm_X4_add_f7 rfl rfl ?_
      refine k_iconst F (pc := 69) ((nI 4)) dX4_add_69 (by decide) ?_
      refine k_aload_n F (pc := 70) 0 rfl dX4_add_70 rfl ?_
      refine k_get F (pc := 71) (ref := RX4) (C := RX4) (T := TX4) (N := 15) (ci := 4) 0 1 dX4_add_71 zin_X4_add_X4 rfl rfl (by decide) zm_X4_add_f42 rfl rfl ?_
      refine k_imulN F (pc := 74) dX4_add_74 ?_
      refine k_iconst F (pc := 75) ((nI 3)) dX4_add_75 (by decide) ?_
      refine k_iaddN F (pc := 76) dX4_add_76 ?_
      refine k_iload F (pc := 77) 4 rfl dX4_add_77 ?_
      refine k_iast F (pc := 79) 1 (fun cd_10 => (wX4 E h cd_10 n rt sc on lo hi non nlo nhi fl tlo thi le gr)) dX4_add_79 rfl (by omega) (by decide) (fun _ => rfl) (fun cd_10 ecd_10 => ?_)
      refine k_aload_n F (pc := 80) 0 rfl dX4_add_80 rfl ?_
      refine k_aload_n F (pc := 81) 0 rfl dX4_add_81 rfl ?_
      refine k_get F (pc := 82) (ref := RX4) (C := RX4) (T := TX4) (N := 15) (ci := 4) 0 1 dX4_add_82 zin_X4_add_X4 rfl rfl (by decide) zm_X4_add_f42 rfl rfl ?_
      refine k_iconst F (pc := 85) ((nI 1)) dX4_add_85 (by decide) ?_
      refine k_iaddN F (pc := 86) dX4_add_86 ?_
      refine k_put F (pc := 87) (ref := RX4) (C := RX4) (T := TX4) (N := 15) (ci := 4) (ty := .int) (v := .int (nI (n + 1))) tyX4 0 1 (wX4 E h cd_10 (n + 1) rt sc on lo hi non nlo nhi fl tlo thi le gr) dX4_add_87 zin_X4_add_X4 tyX4_ok nmX4 rfl rfl (by decide) zm_X4_add_f42 rfl rfl (by decide +kernel) rfl rfl (Nat.le_of_ble_eq_true rfl) rfl ?_
      refine k_aload_n F (pc := 90) 0 rfl dX4_add_90 rfl ?_
      refine k_callV F (pc := 91) (C := RX4) (T := TX4) (N := 15) (ci := 4) [] [] 0 (wX4 E h cd_10 (n + 1) rt sc on lo hi non nlo nhi fl tlo thi le gr) [] [0, 1, 2, 3, 4, 5, 6, 7, 8, 9, 10] [] (m_X4_forget l E h cd_10 (n + 1) rt sc on lo hi non nlo nhi fl tlo thi le gr) dX4_add_91 gX4_add_X4_forget rfl (by decide +kernel) rfl ⟨rfl, rfl⟩ (by decide) rfl (Nat.le_of_ble_eq_true rfl) (by decide) rfl rfl rfl rfl (by decide) (by decide) (by decide) ?_
      rintro v_11 w_12 ⟨rfl, rfl⟩
      refine k_perm (wX4 E h cd_10 (n + 1) 0 false on lo hi non nlo nhi fl tlo thi le gr) [0, 1, 2, 3, 4, 5, 6, 7, 8, 9, 10] (by decide) rfl ?_
      show kK g (wX4 E h cd_10 (n + 1) 0 false on lo hi non nlo nhi fl tlo thi le gr) [(0, .ref (h 0)), (1, .int o), (2, .int a), (3, .int b), (4, .int c)] 0 0 94 []
      refine k_aload_n F (pc := 94) 0 rfl dX4_add_94 rfl ?_
      refine k_get F (pc := 95) (ref := RX4) (C := RX4) (T := TX4) (N := 15) (ci := 4) 0 1 dX4_add_95 zin_X4_add_X4 rfl rfl (by decide) zm_X4_add_f42 rfl rfl ?_
      refine k_iconst F (pc := 98) ((nI 1)) dX4_add_98 (by decide) ?_
      refine k_isubN F (pc := 99) dX4_add_99 (by omega) ?_
      subst ecd_10
      subst ecd_9
      subst ecd_8
      subst ecd_7
      refine k_iret F Rr (pc := 100) dX4_add_100 ⟨(nI ((n + 1) - 1)), _, _, _, _, rfl, rfl, ?_⟩
      exact Or.inr (Or.inr ⟨hy, by omega, rfl, rfl, rfl, rfl, rfl⟩)
    · skip
      refine k_bipush F (pc := 22) ((-2)) dX4_add_22 (by decide) ?_
      refine k_iret F Rr (pc := 24) dX4_add_24 ⟨(-2), cd, n, sc, rt, rfl, rfl, ?_⟩
      exact Or.inr (Or.inl ⟨hy, by omega, rfl, rfl, rfl, rfl, rfl⟩)
  · skip
    have hb_13 := k_ff hfi c_4
    have hy := k_ff hfi c_4
    refine k_iconst F (pc := 11) ((-1)) dX4_add_11 (by decide) ?_
    refine k_iret F Rr (pc := 12) dX4_add_12 ⟨(-1), cd, n, sc, rt, rfl, rfl, ?_⟩
    exact Or.inl ⟨hy, rfl, rfl, rfl, rfl, rfl⟩
theorem zm_X4_code_f42 : (Cond.fieldLink RX4 42 RX4 "n" "I" : Cond) ∈ wsX4_code := by decide +kernel
theorem zin_X4_code_X4 : ∀ w ∈ u_ws RX4 TX4 15, w ∈ wsX4_code := by decide +kernel
theorem zm_X4_code_f7 : (Cond.fieldLink RX4 7 RX4 "code" "[I" : Cond) ∈ wsX4_code := by decide +kernel
set_option maxHeartbeats 4000000 in
set_option maxRecDepth 100000 in
theorem m_X4_code (l : Launch) (E : kE) (h : Nat → Nat) (cd : Nat → Int32) (n : Nat) (rt : Nat) (sc : Bool) (on : Nat → Bool) (lo : Nat → Int64) (hi : Nat → Int64) (non : Nat → Bool) (nlo : Nat → Int64) (nhi : Nat → Int64) (fl : Nat → Bool) (tlo : Nat → Int64) (thi : Nat → Int64) (le : Int64) (gr : Int64) (p : Int32) (f : Int32) (hn : n ≤ 24) : kC l yX4_code wsX4_code ({ frames := 1, cells := 0, slots := 0, locals := 21 } : Room) E [.ref (h 0), .int p, .int f] (wX4 E h cd n rt sc on lo hi non nlo nhi fl tlo thi le gr) 0 0 (fun v_ w_ => ∃ (r : Int32), v_ = some (.int r) ∧ w_ = (wX4 E h cd n rt sc on lo hi non nlo nhi fl tlo thi le gr) ∧ (r = codeV cd n p f)) := by
  refine kC.enter cX4_code 3 (some .int) [(0, .ref (h 0)), (1, .int p), (2, .int f)] (by decide) rfl (Nat.le_of_ble_eq_true rfl) rfl ?_
  intro g F Rr
  refine k_iload_n F (pc := 0) 1 rfl dX4_code_0 rfl ?_
  refine k_aload_n F (pc := 1) 0 rfl dX4_code_1 rfl ?_
  refine k_get F (pc := 2) (ref := RX4) (C := RX4) (T := TX4) (N := 15) (ci := 4) 0 1 dX4_code_2 zin_X4_code_X4 rfl rfl (by decide) zm_X4_code_f42 rfl rfl ?_
  refine k_iconst F (pc := 5) ((nI 1)) dX4_code_5 (by decide) ?_
  refine k_isub F (pc := 6) dX4_code_6 ?_
  refine k_callS F (pc := 7) [.int p, .int (nI n - nI 1)] [] 2 (m_X4_within l E p (nI n - nI 1) (((n : Nat) : Int) - ((1 : Nat) : Int)) (pk_sub_toInt (by omega) (by omega))) dX4_code_7 gX4_code_X4_within rfl (by decide +kernel) rfl ⟨rfl, rfl⟩ (by decide) rfl (Nat.le_of_ble_eq_true rfl) (by decide) ?_
  rintro v_3 ⟨r_1, rfl, hc_2⟩
  show kK g (wX4 E h cd n rt sc on lo hi non nlo nhi fl tlo thi le gr) [(0, .ref (h 0)), (1, .int p), (2, .int f)] 0 0 10 [.int (bI r_1)]
  refine k_if_eqB F (pc := 10) 34 dX4_code_10 (by decide) (fun c_5 => ?_) (fun c_5 => ?_)
  · skip
    have hb_6 := k_ff hc_2 c_5
    refine k_bipush F (pc := 34) ((-9)) dX4_code_34 (by decide) ?_
    refine k_iret F Rr (pc := 36) dX4_code_36 ⟨(-9), rfl, rfl, ?_⟩
    first
    | (rw [codeV, if_neg (by omega)]; done)
    | rw [codeV, if_pos (by omega)]
  · skip
    have hb_7 := hc_2.mp c_5
    refine k_iload_n F (pc := 13) 2 rfl dX4_code_13 rfl ?_
    refine k_iconst F (pc := 14) ((nI 3)) dX4_code_14 (by decide) ?_
    refine k_callS F (pc := 15) [.int f, .int (nI 3)] [] 2 (m_X4_within l E f (nI 3) (3 : Int) (show (nI 3 : Int32).toInt = 3 by decide)) dX4_code_15 gX4_code_X4_within rfl (by decide +kernel) rfl ⟨rfl, rfl⟩ (by decide) rfl (Nat.le_of_ble_eq_true rfl) (by decide) ?_
    rintro v_10 ⟨r_8, rfl, hc_9⟩
    show kK g (wX4 E h cd n rt sc on lo hi non nlo nhi fl tlo thi le gr) [(0, .ref (h 0)), (1, .int p), (2, .int f)] 0 0 18 [.int (bI r_8)]
    refine k_if_eqB F (pc := 18) 34 dX4_code_18 (by decide) (fun c_12 => ?_) (fun c_12 => ?_)
    · skip
      have hb_13 := k_ff hc_9 c_12
      refine k_bipush F (pc := 34) ((-9)) dX4_code_34 (by decide) ?_
      refine k_iret F Rr (pc := 36) dX4_code_36 ⟨(-9), rfl, rfl, ?_⟩
      first
      | (rw [codeV, if_neg (by omega)]; done)
      | rw [codeV, if_pos (by omega)]
    · skip
      have hb_14 := hc_9.mp c_12
      have hz_15 : p = nI p.toNatClampNeg := k_nC (by omega)
      have hz_15i := k_nCi (x := p) (by omega)
      have hz_16 : f = nI f.toNatClampNeg := k_nC (by omega)
      have hz_16i := k_nCi (x := f) (by omega)
      refine k_aload_n F (pc := 21) 0 rfl dX4_code_21 rfl ?_
      refine k_get F (pc := 22) (ref := RX4) (C := RX4) (T := TX4) (N := 15) (ci := 4) 0 0 dX4_code_22 zin_X4_code_X4 rfl rfl (by decide) zm_X4_code_f7 rfl rfl ?_
      refine k_iconst F (pc := 25) ((nI 4)) dX4_code_25 (by decide) ?_
      refine k_iload_n F (pc := 26) 1 rfl dX4_code_26 rfl ?_
      refine k_topi (nI p.toNatClampNeg) hz_15 ?_
      refine k_imulN F (pc := 27) dX4_code_27 ?_
      refine k_iload_n F (pc := 28) 2 rfl dX4_code_28 rfl ?_
      refine k_topi (nI f.toNatClampNeg) hz_16 ?_
      refine k_iaddN F (pc := 29) dX4_code_29 ?_
      refine k_iald F (pc := 30) 1 dX4_code_30 rfl (by omega) (by decide) ?_
      refine k_goto F (pc := 31) 36 dX4_code_31 (by decide) ?_
      refine k_iret F Rr (pc := 36) dX4_code_36 ⟨(cd (4 * p.toNatClampNeg + f.toNatClampNeg)), rfl, rfl, ?_⟩
      first
      | (rw [codeV, if_neg (by omega)]; done)
      | rw [codeV, if_pos (by omega)]
theorem zm_X4_whole_f42 : (Cond.fieldLink RX4 42 RX4 "n" "I" : Cond) ∈ wsX4_whole := by decide +kernel
theorem zin_X4_whole_X4 : ∀ w ∈ u_ws RX4 TX4 15, w ∈ wsX4_whole := by decide +kernel
theorem zm_X4_whole_f7 : (Cond.fieldLink RX4 7 RX4 "code" "[I" : Cond) ∈ wsX4_whole := by decide +kernel
set_option maxHeartbeats 4000000 in
set_option maxRecDepth 100000 in
theorem m_X4_whole (l : Launch) (E : kE) (h : Nat → Nat) (cd : Nat → Int32) (n : Nat) (rt : Nat) (sc : Bool) (on : Nat → Bool) (lo : Nat → Int64) (hi : Nat → Int64) (non : Nat → Bool) (nlo : Nat → Int64) (nhi : Nat → Int64) (fl : Nat → Bool) (tlo : Nat → Int64) (thi : Nat → Int64) (le : Int64) (gr : Int64) (hn : n ≤ 24) (hok : ∀ p, p < n → okP cd p) : kC l yX4_whole wsX4_whole ({ frames := 0, cells := 0, slots := 0, locals := 0 } : Room) E [.ref (h 0)] (wX4 E h cd n rt sc on lo hi non nlo nhi fl tlo thi le gr) 0 0 (fun v_ w_ => ∃ (r : Bool), v_ = some (.int (bI r)) ∧ w_ = (wX4 E h cd n rt sc on lo hi non nlo nhi fl tlo thi le gr) ∧ (r = true ↔ wholeP cd n)) := by
  refine kC.enter cX4_whole 3 (some .boolean) [(0, .ref (h 0))] (by decide) rfl (Nat.le_of_ble_eq_true rfl) rfl ?_
  intro g F Rr
  refine k_aload_n F (pc := 0) 0 rfl dX4_whole_0 rfl ?_
  refine k_get F (pc := 1) (ref := RX4) (C := RX4) (T := TX4) (N := 15) (ci := 4) 0 1 dX4_whole_1 zin_X4_whole_X4 rfl rfl (by decide) zm_X4_whole_f42 rfl rfl ?_
  refine k_if_eq F (pc := 4) 41 dX4_whole_4 (by decide) (nI_toInt (by omega)) (fun c_1 => ?_) (fun c_1 => ?_)
  · skip
    refine k_iconst F (pc := 41) ((nI 0)) dX4_whole_41 (by decide) ?_
    refine k_zret F Rr (pc := 42) false dX4_whole_42 rfl ⟨false, rfl, rfl, ?_⟩
    first
    | exact ⟨fun h => absurd h (by decide), fun h => by exfalso; have := h.1; omega⟩
    | exact whole_no hnl
  · skip
    refine k_aload_n F (pc := 7) 0 rfl dX4_whole_7 rfl ?_
    refine k_get F (pc := 8) (ref := RX4) (C := RX4) (T := TX4) (N := 15) (ci := 4) 0 0 dX4_whole_8 zin_X4_whole_X4 rfl rfl (by decide) zm_X4_whole_f7 rfl rfl ?_
    refine k_iconst F (pc := 11) ((nI 4)) dX4_whole_11 (by decide) ?_
    refine k_aload_n F (pc := 12) 0 rfl dX4_whole_12 rfl ?_
    refine k_get F (pc := 13) (ref := RX4) (C := RX4) (T := TX4) (N := 15) (ci := 4) 0 1 dX4_whole_13 zin_X4_whole_X4 rfl rfl (by decide) zm_X4_whole_f42 rfl rfl ?_
    refine k_imulN F (pc := 16) dX4_whole_16 ?_
    refine k_iconst F (pc := 17) ((nI 4)) dX4_whole_17 (by decide) ?_
    refine k_isubN F (pc := 18) dX4_whole_18 (by omega) ?_
    have e41 : 4 * n - 4 = 4 * (n - 1) := by omega
    refine k_iald F (pc := 19) 1 dX4_whole_19 rfl (by omega) (by decide) ?_
    refine k_if_eq F (pc := 20) 43 dX4_whole_20 (by decide) rfl (fun c_2 => ?_) (fun c_2 => ?_)
    · skip
      have hlast : (cd (4 * (n - 1))).toInt = 0 ∨ (cd (4 * (n - 1))).toInt = 10 := by rw [← e41]; exact Or.inl c_2
      refine k_iconst F (pc := 43) ((nI 0)) dX4_whole_43 (by decide) ?_
      refine k_istore_n F (pc := 44) [(1, .int (nI 0)), (0, .ref (h 0))] dX4_whole_44 rfl (by decide) rfl ?_
      have L45 : ∀ (d_ : Nat) (i : Nat), n - i < d_ → (i ≤ n) → (∀ p, p < i → ((cd (4 * p)).toInt = 9 ∨ (cd (4 * p)).toInt = 10) → (cd (4 * p + 3)).toInt < (n : Int)) → kK g (wX4 E h cd n rt sc on lo hi non nlo nhi fl tlo thi le gr) [(0, .ref (h 0)), (1, .int (nI i))] 0 0 45 [] := by
        intro d_
        induction d_ with
        | zero => intro i hm; exact absurd hm (Nat.not_lt_zero _)
        | succ d_ ih45 =>
          intro i hm45 hin hal
          refine k_iload_n F (pc := 45) 1 rfl dX4_whole_45 rfl ?_
          refine k_aload_n F (pc := 46) 0 rfl dX4_whole_46 rfl ?_
          refine k_get F (pc := 47) (ref := RX4) (C := RX4) (T := TX4) (N := 15) (ci := 4) 0 1 dX4_whole_47 zin_X4_whole_X4 rfl rfl (by decide) zm_X4_whole_f42 rfl rfl ?_
          refine k_icmp_ge F (pc := 50) 99 dX4_whole_50 (by decide) (nI_toInt (by omega)) (nI_toInt (by omega)) (fun c_3 => ?_) (fun c_3 => ?_)
          · skip
            refine k_iconst F (pc := 99) ((nI 1)) dX4_whole_99 (by decide) ?_
            refine k_zret F Rr (pc := 100) true dX4_whole_100 rfl ⟨true, rfl, rfl, ?_⟩
            exact ⟨fun _ => ⟨by omega, hlast, fun p hp => hal p (by omega)⟩, fun _ => rfl⟩
          · skip
            refine k_aload_n F (pc := 53) 0 rfl dX4_whole_53 rfl ?_
            refine k_get F (pc := 54) (ref := RX4) (C := RX4) (T := TX4) (N := 15) (ci := 4) 0 0 dX4_whole_54 zin_X4_whole_X4 rfl rfl (by decide) zm_X4_whole_f7 rfl rfl ?_
            refine k_iconst F (pc := 57) ((nI 4)) dX4_whole_57 (by decide) ?_
            refine k_iload_n F (pc := 58) 1 rfl dX4_whole_58 rfl ?_
            refine k_imulN F (pc := 59) dX4_whole_59 ?_
            refine k_iald F (pc := 60) 1 dX4_whole_60 rfl (by omega) (by decide) ?_
            refine k_istore_n F (pc := 61) [(2, .int (cd (4 * i))), (0, .ref (h 0)), (1, .int (nI i))] dX4_whole_61 rfl (by decide) rfl ?_
            refine k_iload_n F (pc := 62) 0 rfl dX4_whole_62 rfl ?_
            refine k_bipush F (pc := 63) ((nI 9)) dX4_whole_63 (by decide) ?_
            refine k_icmp_eq F (pc := 65) 74 dX4_whole_65 (by decide) rfl (show (nI 9 : Int32).toInt = 9 by decide) (fun c_4 => ?_) (fun c_4 => ?_)
            · skip
              refine k_aload_n F (pc := 74) 1 rfl dX4_whole_74 rfl ?_
              refine k_get F (pc := 75) (ref := RX4) (C := RX4) (T := TX4) (N := 15) (ci := 4) 0 0 dX4_whole_75 zin_X4_whole_X4 rfl rfl (by decide) zm_X4_whole_f7 rfl rfl ?_
              refine k_iconst F (pc := 78) ((nI 4)) dX4_whole_78 (by decide) ?_
              refine k_iload_n F (pc := 79) 2 rfl dX4_whole_79 rfl ?_
              refine k_imulN F (pc := 80) dX4_whole_80 ?_
              refine k_iconst F (pc := 81) ((nI 3)) dX4_whole_81 (by decide) ?_
              refine k_iaddN F (pc := 82) dX4_whole_82 ?_
              refine k_iald F (pc := 83) 1 dX4_whole_83 rfl (by omega) (by decide) ?_
              refine k_aload_n F (pc := 84) 1 rfl dX4_whole_84 rfl ?_
              refine k_get F (pc := 85) (ref := RX4) (C := RX4) (T := TX4) (N := 15) (ci := 4) 0 1 dX4_whole_85 zin_X4_whole_X4 rfl rfl (by decide) zm_X4_whole_f42 rfl rfl ?_
              refine k_icmp_lt F (pc := 88) 93 dX4_whole_88 (by decide) rfl (nI_toInt (by omega)) (fun c_5 => ?_) (fun c_5 => ?_)
              · skip
                refine k_iinc F (pc := 93) 2 ((nI (i + 1))) [(1, .int (nI (i + 1))), (2, .int (cd (4 * i))), (0, .ref (h 0))] dX4_whole_93 rfl (nI_1 i) (by decide) rfl ?_
                refine k_goto F (pc := 96) 45 dX4_whole_96 (by decide) ?_
                refine k_lv [(0, .ref (h 0)), (1, .int (nI (i + 1)))] [2, 0] rfl ?_
                exact ih45 (i + 1) (by omega) (by omega) (by exact lt_s hal (by omega))
              · skip
                refine k_iconst F (pc := 91) ((nI 0)) dX4_whole_91 (by decide) ?_
                refine k_zret F Rr (pc := 92) false dX4_whole_92 rfl ⟨false, rfl, rfl, ?_⟩
                exact ⟨fun h => absurd h (by decide), fun h => by exfalso; have := h.2.2 i (by omega) (by omega); omega⟩
            · skip
              refine k_iload_n F (pc := 68) 0 rfl dX4_whole_68 rfl ?_
              refine k_bipush F (pc := 69) ((nI 10)) dX4_whole_69 (by decide) ?_
              refine k_icmp_ne F (pc := 71) 93 dX4_whole_71 (by decide) rfl (show (nI 10 : Int32).toInt = 10 by decide) (fun c_6 => ?_) (fun c_6 => ?_)
              · skip
                refine k_iinc F (pc := 93) 2 ((nI (i + 1))) [(1, .int (nI (i + 1))), (2, .int (cd (4 * i))), (0, .ref (h 0))] dX4_whole_93 rfl (nI_1 i) (by decide) rfl ?_
                refine k_goto F (pc := 96) 45 dX4_whole_96 (by decide) ?_
                refine k_lv [(0, .ref (h 0)), (1, .int (nI (i + 1)))] [2, 0] rfl ?_
                exact ih45 (i + 1) (by omega) (by omega) (by exact lt_s hal (by omega))
              · skip
                refine k_aload_n F (pc := 74) 1 rfl dX4_whole_74 rfl ?_
                refine k_get F (pc := 75) (ref := RX4) (C := RX4) (T := TX4) (N := 15) (ci := 4) 0 0 dX4_whole_75 zin_X4_whole_X4 rfl rfl (by decide) zm_X4_whole_f7 rfl rfl ?_
                refine k_iconst F (pc := 78) ((nI 4)) dX4_whole_78 (by decide) ?_
                refine k_iload_n F (pc := 79) 2 rfl dX4_whole_79 rfl ?_
                refine k_imulN F (pc := 80) dX4_whole_80 ?_
                refine k_iconst F (pc := 81) ((nI 3)) dX4_whole_81 (by decide) ?_
                refine k_iaddN F (pc := 82) dX4_whole_82 ?_
                refine k_iald F (pc := 83) 1 dX4_whole_83 rfl (by omega) (by decide) ?_
                refine k_aload_n F (pc := 84) 1 rfl dX4_whole_84 rfl ?_
                refine k_get F (pc := 85) (ref := RX4) (C := RX4) (T := TX4) (N := 15) (ci := 4) 0 1 dX4_whole_85 zin_X4_whole_X4 rfl rfl (by decide) zm_X4_whole_f42 rfl rfl ?_
                refine k_icmp_lt F (pc := 88) 93 dX4_whole_88 (by decide) rfl (nI_toInt (by omega)) (fun c_7 => ?_) (fun c_7 => ?_)
                · skip
                  refine k_iinc F (pc := 93) 2 ((nI (i + 1))) [(1, .int (nI (i + 1))), (2, .int (cd (4 * i))), (0, .ref (h 0))] dX4_whole_93 rfl (nI_1 i) (by decide) rfl ?_
                  refine k_goto F (pc := 96) 45 dX4_whole_96 (by decide) ?_
                  refine k_lv [(0, .ref (h 0)), (1, .int (nI (i + 1)))] [2, 0] rfl ?_
                  exact ih45 (i + 1) (by omega) (by omega) (by exact lt_s hal (by omega))
                · skip
                  refine k_iconst F (pc := 91) ((nI 0)) dX4_whole_91 (by decide) ?_
                  refine k_zret F Rr (pc := 92) false dX4_whole_92 rfl ⟨false, rfl, rfl, ?_⟩
                  exact ⟨fun h => absurd h (by decide), fun h => by exfalso; have := h.2.2 i (by omega) (by omega); omega⟩
      refine k_lv [(0, .ref (h 0)), (1, .int (nI 0))] [1, 0] rfl ?_
      exact L45 (n - 0 + 1) 0 (Nat.lt_succ_self _) (by omega) (by intro p hp; omega)
    · skip
      refine k_aload_n F (pc := 23) 0 rfl dX4_whole_23 rfl ?_
      refine k_get F (pc := 24) (ref := RX4) (C := RX4) (T := TX4) (N := 15) (ci := 4) 0 0 dX4_whole_24 zin_X4_whole_X4 rfl rfl (by decide) zm_X4_whole_f7 rfl rfl ?_
      refine k_iconst F (pc := 27) ((nI 4)) dX4_whole_27 (by decide) ?_
      refine k_aload_n F (pc := 28) 0 rfl dX4_whole_28 rfl ?_
      refine k_get F (pc := 29) (ref := RX4) (C := RX4) (T := TX4) (N := 15) (ci := 4) 0 1 dX4_whole_29 zin_X4_whole_X4 rfl rfl (by decide) zm_X4_whole_f42 rfl rfl ?_
      refine k_imulN F (pc := 32) dX4_whole_32 ?_
      refine k_iconst F (pc := 33) ((nI 4)) dX4_whole_33 (by decide) ?_
      refine k_isubN F (pc := 34) dX4_whole_34 (by omega) ?_
      refine k_iald F (pc := 35) 1 dX4_whole_35 rfl (by omega) (by decide) ?_
      refine k_bipush F (pc := 36) ((nI 10)) dX4_whole_36 (by decide) ?_
      refine k_icmp_eq F (pc := 38) 43 dX4_whole_38 (by decide) rfl (show (nI 10 : Int32).toInt = 10 by decide) (fun c_8 => ?_) (fun c_8 => ?_)
      · skip
        have hlast : (cd (4 * (n - 1))).toInt = 0 ∨ (cd (4 * (n - 1))).toInt = 10 := by rw [← e41]; exact Or.inr c_8
        refine k_iconst F (pc := 43) ((nI 0)) dX4_whole_43 (by decide) ?_
        refine k_istore_n F (pc := 44) [(1, .int (nI 0)), (0, .ref (h 0))] dX4_whole_44 rfl (by decide) rfl ?_
        have L45 : ∀ (d_ : Nat) (i : Nat), n - i < d_ → (i ≤ n) → (∀ p, p < i → ((cd (4 * p)).toInt = 9 ∨ (cd (4 * p)).toInt = 10) → (cd (4 * p + 3)).toInt < (n : Int)) → kK g (wX4 E h cd n rt sc on lo hi non nlo nhi fl tlo thi le gr) [(0, .ref (h 0)), (1, .int (nI i))] 0 0 45 [] := by
          intro d_
          induction d_ with
          | zero => intro i hm; exact absurd hm (Nat.not_lt_zero _)
          | succ d_ ih45 =>
            intro i hm45 hin hal
            refine k_iload_n F (pc := 45) 1 rfl dX4_whole_45 rfl ?_
            refine k_aload_n F (pc := 46) 0 rfl dX4_whole_46 rfl ?_
            refine k_get F (pc := 47) (ref := RX4) (C := RX4) (T := TX4) (N := 15) (ci := 4) 0 1 dX4_whole_47 zin_X4_whole_X4 rfl rfl (by decide) zm_X4_whole_f42 rfl rfl ?_
            refine k_icmp_ge F (pc := 50) 99 dX4_whole_50 (by decide) (nI_toInt (by omega)) (nI_toInt (by omega)) (fun c_9 => ?_) (fun c_9 => ?_)
            · skip
              refine k_iconst F (pc := 99) ((nI 1)) dX4_whole_99 (by decide) ?_
              refine k_zret F Rr (pc := 100) true dX4_whole_100 rfl ⟨true, rfl, rfl, ?_⟩
              exact ⟨fun _ => ⟨by omega, hlast, fun p hp => hal p (by omega)⟩, fun _ => rfl⟩
            · skip
              refine k_aload_n F (pc := 53) 0 rfl dX4_whole_53 rfl ?_
              refine k_get F (pc := 54) (ref := RX4) (C := RX4) (T := TX4) (N := 15) (ci := 4) 0 0 dX4_whole_54 zin_X4_whole_X4 rfl rfl (by decide) zm_X4_whole_f7 rfl rfl ?_
              refine k_iconst F (pc := 57) ((nI 4)) dX4_whole_57 (by decide) ?_
              refine k_iload_n F (pc := 58) 1 rfl dX4_whole_58 rfl ?_
              refine k_imulN F (pc := 59) dX4_whole_59 ?_
              refine k_iald F (pc := 60) 1 dX4_whole_60 rfl (by omega) (by decide) ?_
              refine k_istore_n F (pc := 61) [(2, .int (cd (4 * i))), (0, .ref (h 0)), (1, .int (nI i))] dX4_whole_61 rfl (by decide) rfl ?_
              refine k_iload_n F (pc := 62) 0 rfl dX4_whole_62 rfl ?_
              refine k_bipush F (pc := 63) ((nI 9)) dX4_whole_63 (by decide) ?_
              refine k_icmp_eq F (pc := 65) 74 dX4_whole_65 (by decide) rfl (show (nI 9 : Int32).toInt = 9 by decide) (fun c_10 => ?_) (fun c_10 => ?_)
              · skip
                refine k_aload_n F (pc := 74) 1 rfl dX4_whole_74 rfl ?_
                refine k_get F (pc := 75) (ref := RX4) (C := RX4) (T := TX4) (N := 15) (ci := 4) 0 0 dX4_whole_75 zin_X4_whole_X4 rfl rfl (by decide) zm_X4_whole_f7 rfl rfl ?_
                refine k_iconst F (pc := 78) ((nI 4)) dX4_whole_78 (by decide) ?_
                refine k_iload_n F (pc := 79) 2 rfl dX4_whole_79 rfl ?_
                refine k_imulN F (pc := 80) dX4_whole_80 ?_
                refine k_iconst F (pc := 81) ((nI 3)) dX4_whole_81 (by decide) ?_
                refine k_iaddN F (pc := 82) dX4_whole_82 ?_
                refine k_iald F (pc := 83) 1 dX4_whole_83 rfl (by omega) (by decide) ?_
                refine k_aload_n F (pc := 84) 1 rfl dX4_whole_84 rfl ?_
                refine k_get F (pc := 85) (ref := RX4) (C := RX4) (T := TX4) (N := 15) (ci := 4) 0 1 dX4_whole_85 zin_X4_whole_X4 rfl rfl (by decide) zm_X4_whole_f42 rfl rfl ?_
                refine k_icmp_lt F (pc := 88) 93 dX4_whole_88 (by decide) rfl (nI_toInt (by omega)) (fun c_11 => ?_) (fun c_11 => ?_)
                · skip
                  refine k_iinc F (pc := 93) 2 ((nI (i + 1))) [(1, .int (nI (i + 1))), (2, .int (cd (4 * i))), (0, .ref (h 0))] dX4_whole_93 rfl (nI_1 i) (by decide) rfl ?_
                  refine k_goto F (pc := 96) 45 dX4_whole_96 (by decide) ?_
                  refine k_lv [(0, .ref (h 0)), (1, .int (nI (i + 1)))] [2, 0] rfl ?_
                  exact ih45 (i + 1) (by omega) (by omega) (by exact lt_s hal (by omega))
                · skip
                  refine k_iconst F (pc := 91) ((nI 0)) dX4_whole_91 (by decide) ?_
                  refine k_zret F Rr (pc := 92) false dX4_whole_92 rfl ⟨false, rfl, rfl, ?_⟩
                  exact ⟨fun h => absurd h (by decide), fun h => by exfalso; have := h.2.2 i (by omega) (by omega); omega⟩
              · skip
                refine k_iload_n F (pc := 68) 0 rfl dX4_whole_68 rfl ?_
                refine k_bipush F (pc := 69) ((nI 10)) dX4_whole_69 (by decide) ?_
                refine k_icmp_ne F (pc := 71) 93 dX4_whole_71 (by decide) rfl (show (nI 10 : Int32).toInt = 10 by decide) (fun c_12 => ?_) (fun c_12 => ?_)
                · skip
                  refine k_iinc F (pc := 93) 2 ((nI (i + 1))) [(1, .int (nI (i + 1))), (2, .int (cd (4 * i))), (0, .ref (h 0))] dX4_whole_93 rfl (nI_1 i) (by decide) rfl ?_
                  refine k_goto F (pc := 96) 45 dX4_whole_96 (by decide) ?_
                  refine k_lv [(0, .ref (h 0)), (1, .int (nI (i + 1)))] [2, 0] rfl ?_
                  exact ih45 (i + 1) (by omega) (by omega) (by exact lt_s hal (by omega))
                · skip
                  refine k_aload_n F (pc := 74) 1 rfl dX4_whole_74 rfl ?_
                  refine k_get F (pc := 75) (ref := RX4) (C := RX4) (T := TX4) (N := 15) (ci := 4) 0 0 dX4_whole_75 zin_X4_whole_X4 rfl rfl (by decide) zm_X4_whole_f7 rfl rfl ?_
                  refine k_iconst F (pc := 78) ((nI 4)) dX4_whole_78 (by decide) ?_
                  refine k_iload_n F (pc := 79) 2 rfl dX4_whole_79 rfl ?_
                  refine k_imulN F (pc := 80) dX4_whole_80 ?_
                  refine k_iconst F (pc := 81) ((nI 3)) dX4_whole_81 (by decide) ?_
                  refine k_iaddN F (pc := 82) dX4_whole_82 ?_
                  refine k_iald F (pc := 83) 1 dX4_whole_83 rfl (by omega) (by decide) ?_
                  refine k_aload_n F (pc := 84) 1 rfl dX4_whole_84 rfl ?_
                  refine k_get F (pc := 85) (ref := RX4) (C := RX4) (T := TX4) (N := 15) (ci := 4) 0 1 dX4_whole_85 zin_X4_whole_X4 rfl rfl (by decide) zm_X4_whole_f42 rfl rfl ?_
                  refine k_icmp_lt F (pc := 88) 93 dX4_whole_88 (by decide) rfl (nI_toInt (by omega)) (fun c_13 => ?_) (fun c_13 => ?_)
                  · skip
                    refine k_iinc F (pc := 93) 2 ((nI (i + 1))) [(1, .int (nI (i + 1))), (2, .int (cd (4 * i))), (0, .ref (h 0))] dX4_whole_93 rfl (nI_1 i) (by decide) rfl ?_
                    refine k_goto F (pc := 96) 45 dX4_whole_96 (by decide) ?_
                    refine k_lv [(0, .ref (h 0)), (1, .int (nI (i + 1)))] [2, 0] rfl ?_
                    exact ih45 (i + 1) (by omega) (by omega) (by exact lt_s hal (by omega))
                  · skip
                    refine k_iconst F (pc := 91) ((nI 0)) dX4_whole_91 (by decide) ?_
                    refine k_zret F Rr (pc := 92) false dX4_whole_92 rfl ⟨false, rfl, rfl, ?_⟩
                    exact ⟨fun h => absurd h (by decide), fun h => by exfalso; have := h.2.2 i (by omega) (by omega); omega⟩
        refine k_lv [(0, .ref (h 0)), (1, .int (nI 0))] [1, 0] rfl ?_
        exact L45 (n - 0 + 1) 0 (Nat.lt_succ_self _) (by omega) (by intro p hp; omega)
      · skip
        have hnl : ¬ ((cd (4 * (n - 1))).toInt = 0 ∨ (cd (4 * (n - 1))).toInt = 10) := by rw [← e41]; omega
        refine k_iconst F (pc := 41) ((nI 0)) dX4_whole_41 (by decide) ?_
        refine k_zret F Rr (pc := 42) false dX4_whole_42 rfl ⟨false, rfl, rfl, ?_⟩
        first
        | exact ⟨fun h => absurd h (by decide), fun h => by exfalso; have := h.1; omega⟩
        | exact whole_no hnl
