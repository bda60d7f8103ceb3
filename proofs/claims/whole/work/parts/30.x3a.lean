set_option maxHeartbeats 4000000 in
set_option maxRecDepth 100000 in
theorem m_X3_isVariable (l : Launch) (E : kE) (x : Int32)  : kC l yX3_isVariable wsX3_isVariable ({ frames := 0, cells := 0, slots := 0, locals := 0 } : Room) E [.int x] [] 0 0 (fun v_ w_ => w_ = [] ∧ ∃ (r : Bool), v_ = some (.int (bI r)) ∧ (r = true ↔ 0 ≤ x.toInt ∧ x.toInt ≤ 3)) := by
  refine kC.enter cX3_isVariable 1 (some .boolean) [(0, .int x)] (by decide) rfl (Nat.le_of_ble_eq_true rfl) rfl ?_
  intro g F Rr
  refine k_iload_n F (pc := 0) 0 rfl dX3_isVariable_0 rfl ?_
  refine k_if_lt F (pc := 1) 13 dX3_isVariable_1 (by decide) rfl (fun c_1 => ?_) (fun c_1 => ?_)
  · skip
    refine k_iconst F (pc := 13) ((nI 0)) dX3_isVariable_13 (by decide) ?_
    refine k_zret F Rr (pc := 14) false dX3_isVariable_14 rfl ⟨rfl, false, rfl, ?_⟩
    first
    | exact ⟨fun _ => by omega, fun _ => rfl⟩
    | exact ⟨fun h => absurd h (by decide), fun h => by exfalso; omega⟩
  · skip
    refine k_iload_n F (pc := 4) 0 rfl dX3_isVariable_4 rfl ?_
    refine k_iconst F (pc := 5) ((nI 4)) dX3_isVariable_5 (by decide) ?_
    refine k_icmp_ge F (pc := 6) 13 dX3_isVariable_6 (by decide) rfl (show (nI 4 : Int32).toInt = 4 by decide) (fun c_2 => ?_) (fun c_2 => ?_)
    · skip
      refine k_iconst F (pc := 13) ((nI 0)) dX3_isVariable_13 (by decide) ?_
      refine k_zret F Rr (pc := 14) false dX3_isVariable_14 rfl ⟨rfl, false, rfl, ?_⟩
      first
      | exact ⟨fun _ => by omega, fun _ => rfl⟩
      | exact ⟨fun h => absurd h (by decide), fun h => by exfalso; omega⟩
    · skip
      refine k_iconst F (pc := 9) ((nI 1)) dX3_isVariable_9 (by decide) ?_
      refine k_goto F (pc := 10) 14 dX3_isVariable_10 (by decide) ?_
      refine k_zret F Rr (pc := 14) true dX3_isVariable_14 rfl ⟨rfl, true, rfl, ?_⟩
      first
      | exact ⟨fun _ => by omega, fun _ => rfl⟩
      | exact ⟨fun h => absurd h (by decide), fun h => by exfalso; omega⟩
set_option maxHeartbeats 4000000 in
set_option maxRecDepth 100000 in
theorem m_X3_goesOnAtC (l : Launch) (E : kE) (o : Int32)  : kC l yX3_goesOnAtC wsX3_goesOnAtC ({ frames := 0, cells := 0, slots := 0, locals := 0 } : Room) E [.int o] [] 0 0 (fun v_ w_ => w_ = [] ∧ ∃ (r : Bool), v_ = some (.int (bI r)) ∧ (r = true ↔ o.toInt = 9 ∨ o.toInt = 10)) := by
  refine kC.enter cX3_goesOnAtC 1 (some .boolean) [(0, .int o)] (by decide) rfl (Nat.le_of_ble_eq_true rfl) rfl ?_
  intro g F Rr
  refine k_iload_n F (pc := 0) 0 rfl dX3_goesOnAtC_0 rfl ?_
  refine k_bipush F (pc := 1) ((nI 9)) dX3_goesOnAtC_1 (by decide) ?_
  refine k_icmp_eq F (pc := 3) 12 dX3_goesOnAtC_3 (by decide) rfl (show (nI 9 : Int32).toInt = 9 by decide) (fun c_1 => ?_) (fun c_1 => ?_)
  · skip
    refine k_iconst F (pc := 12) ((nI 1)) dX3_goesOnAtC_12 (by decide) ?_
    refine k_goto F (pc := 13) 17 dX3_goesOnAtC_13 (by decide) ?_
    refine k_zret F Rr (pc := 17) true dX3_goesOnAtC_17 rfl ⟨rfl, true, rfl, ?_⟩
    first
    | exact ⟨fun _ => by omega, fun _ => rfl⟩
    | exact ⟨fun h => absurd h (by decide), fun h => by exfalso; omega⟩
  · skip
    refine k_iload_n F (pc := 6) 0 rfl dX3_goesOnAtC_6 rfl ?_
    refine k_bipush F (pc := 7) ((nI 10)) dX3_goesOnAtC_7 (by decide) ?_
    refine k_icmp_ne F (pc := 9) 16 dX3_goesOnAtC_9 (by decide) rfl (show (nI 10 : Int32).toInt = 10 by decide) (fun c_2 => ?_) (fun c_2 => ?_)
    · skip
      refine k_iconst F (pc := 16) ((nI 0)) dX3_goesOnAtC_16 (by decide) ?_
      refine k_zret F Rr (pc := 17) false dX3_goesOnAtC_17 rfl ⟨rfl, false, rfl, ?_⟩
      first
      | exact ⟨fun _ => by omega, fun _ => rfl⟩
      | exact ⟨fun h => absurd h (by decide), fun h => by exfalso; omega⟩
    · skip
      refine k_iconst F (pc := 12) ((nI 1)) dX3_goesOnAtC_12 (by decide) ?_
      refine k_goto F (pc := 13) 17 dX3_goesOnAtC_13 (by decide) ?_
      refine k_zret F Rr (pc := 17) true dX3_goesOnAtC_17 rfl ⟨rfl, true, rfl, ?_⟩
      first
      | exact ⟨fun _ => by omega, fun _ => rfl⟩
      | exact ⟨fun h => absurd h (by decide), fun h => by exfalso; omega⟩
set_option maxHeartbeats 4000000 in
set_option maxRecDepth 100000 in
theorem m_X3_isPlaceRight (l : Launch) (E : kE) (o : Int32) (c : Int32)  : kC l yX3_isPlaceRight wsX3_isPlaceRight ({ frames := 1, cells := 0, slots := 0, locals := 20 } : Room) E [.int o, .int c] [] 0 0 (fun v_ w_ => w_ = [] ∧ ∃ (r : Bool), v_ = some (.int (bI r)) ∧ (r = true ↔ (o.toInt = 9 ∨ o.toInt = 10 → 0 ≤ c.toInt ∧ c.toInt ≤ 23))) := by
  refine kC.enter cX3_isPlaceRight 2 (some .boolean) [(0, .int o), (1, .int c)] (by decide) rfl (Nat.le_of_ble_eq_true rfl) rfl ?_
  intro g F Rr
  refine k_iload_n F (pc := 0) 0 rfl dX3_isPlaceRight_0 rfl ?_
  refine k_callS F (pc := 1) [.int o] [] 1 (m_X3_goesOnAtC l E o) dX3_isPlaceRight_1 gX3_isPlaceRight_X3_goesOnAtC rfl (by decide +kernel) rfl ⟨rfl, rfl⟩ (by decide) rfl (Nat.le_of_ble_eq_true rfl) (by decide) ?_
  rintro v_3 ⟨r_1, rfl, hc_2⟩
  show kK g [] [(0, .int o), (1, .int c)] 0 0 4 [.int (bI r_1)]
  refine k_if_eqB F (pc := 4) 17 dX3_isPlaceRight_4 (by decide) (fun c_5 => ?_) (fun c_5 => ?_)
  · skip
    have hb_6 := k_ff hc_2 c_5
    refine k_iconst F (pc := 17) ((nI 1)) dX3_isPlaceRight_17 (by decide) ?_
    refine k_goto F (pc := 18) 22 dX3_isPlaceRight_18 (by decide) ?_
    refine k_zret F Rr (pc := 22) true dX3_isPlaceRight_22 rfl ⟨rfl, true, rfl, ?_⟩
    first
    | exact ⟨fun _ => by omega, fun _ => rfl⟩
    | exact ⟨fun h => absurd h (by decide), fun h => by exfalso; omega⟩
  · skip
    have hb_7 := hc_2.mp c_5
    refine k_iload_n F (pc := 7) 1 rfl dX3_isPlaceRight_7 rfl ?_
    refine k_if_lt F (pc := 8) 21 dX3_isPlaceRight_8 (by decide) rfl (fun c_8 => ?_) (fun c_8 => ?_)
    · skip
      refine k_iconst F (pc := 21) ((nI 0)) dX3_isPlaceRight_21 (by decide) ?_
      refine k_zret F Rr (pc := 22) false dX3_isPlaceRight_22 rfl ⟨rfl, false, rfl, ?_⟩
      first
      | exact ⟨fun _ => by omega, fun _ => rfl⟩
      | exact ⟨fun h => absurd h (by decide), fun h => by exfalso; omega⟩
    · skip
      refine k_iload_n F (pc := 11) 1 rfl dX3_isPlaceRight_11 rfl ?_
      refine k_bipush F (pc := 12) ((nI 24)) dX3_isPlaceRight_12 (by decide) ?_
      refine k_icmp_ge F (pc := 14) 21 dX3_isPlaceRight_14 (by decide) rfl (show (nI 24 : Int32).toInt = 24 by decide) (fun c_9 => ?_) (fun c_9 => ?_)
      · skip
        refine k_iconst F (pc := 21) ((nI 0)) dX3_isPlaceRight_21 (by decide) ?_
        refine k_zret F Rr (pc := 22) false dX3_isPlaceRight_22 rfl ⟨rfl, false, rfl, ?_⟩
        first
        | exact ⟨fun _ => by omega, fun _ => rfl⟩
        | exact ⟨fun h => absurd h (by decide), fun h => by exfalso; omega⟩
      · skip
        refine k_iconst F (pc := 17) ((nI 1)) dX3_isPlaceRight_17 (by decide) ?_
        refine k_goto F (pc := 18) 22 dX3_isPlaceRight_18 (by decide) ?_
        refine k_zret F Rr (pc := 22) true dX3_isPlaceRight_22 rfl ⟨rfl, true, rfl, ?_⟩
        first
        | exact ⟨fun _ => by omega, fun _ => rfl⟩
        | exact ⟨fun h => absurd h (by decide), fun h => by exfalso; omega⟩
set_option maxHeartbeats 4000000 in
set_option maxRecDepth 100000 in
theorem m_X3_areVariablesRight (l : Launch) (E : kE) (o : Int32) (a : Int32) (b : Int32) (c : Int32)  : kC l yX3_areVariablesRight wsX3_areVariablesRight ({ frames := 1, cells := 0, slots := 0, locals := 20 } : Room) E [.int o, .int a, .int b, .int c] [] 0 0 (fun v_ w_ => w_ = [] ∧ ∃ (r : Bool), v_ = some (.int (bI r)) ∧ (r = true ↔ (((1 ≤ o.toInt ∧ o.toInt ≤ 9 ∨ o.toInt = 11) → 0 ≤ a.toInt ∧ a.toInt ≤ 3) ∧ (2 ≤ o.toInt ∧ o.toInt ≤ 9 → 0 ≤ b.toInt ∧ b.toInt ≤ 3) ∧ (3 ≤ o.toInt ∧ o.toInt ≤ 6 → 0 ≤ c.toInt ∧ c.toInt ≤ 3)))) := by
  refine kC.enter cX3_areVariablesRight 7 (some .boolean) [(0, .int o), (1, .int a), (2, .int b), (3, .int c)] (by decide) rfl (Nat.le_of_ble_eq_true rfl) rfl ?_
  intro g F Rr
  have J22 : ∀ (uA : Bool), (uA = true ↔ (1 ≤ o.toInt ∧ o.toInt ≤ 9 ∨ o.toInt = 11)) → kK g [] [(0, .int o), (1, .int a), (2, .int b), (3, .int c)] 0 0 22 [.int (bI uA)] := by
    intro uA huA
    refine k_istore F (pc := 22) [(4, .int (bI uA)), (0, .int o), (1, .int a), (2, .int b), (3, .int c)] dX3_areVariablesRight_22 (by decide) rfl ?_
    have J40 : ∀ (uB : Bool), (uB = true ↔ (2 ≤ o.toInt ∧ o.toInt ≤ 9)) → kK g [] [(0, .int o), (1, .int a), (2, .int b), (3, .int c), (4, .int (bI uA))] 0 0 40 [.int (bI uB)] := by
      intro uB huB
      refine k_istore F (pc := 40) [(5, .int (bI uB)), (0, .int o), (1, .int a), (2, .int b), (3, .int c), (4, .int (bI uA))] dX3_areVariablesRight_40 (by decide) rfl ?_
      have J58 : ∀ (uC : Bool), (uC = true ↔ (3 ≤ o.toInt ∧ o.toInt ≤ 6)) → kK g [] [(0, .int o), (1, .int a), (2, .int b), (3, .int c), (4, .int (bI uA)), (5, .int (bI uB))] 0 0 58 [.int (bI uC)] := by
        intro uC huC
        refine k_istore F (pc := 58) [(6, .int (bI uC)), (0, .int o), (1, .int a), (2, .int b), (3, .int c), (4, .int (bI uA)), (5, .int (bI uB))] dX3_areVariablesRight_58 (by decide) rfl ?_
        refine k_iload F (pc := 60) 5 rfl dX3_areVariablesRight_60 ?_
        refine k_if_eqB F (pc := 62) 72 dX3_areVariablesRight_62 (by decide) (fun c_1 => ?_) (fun c_1 => ?_)
        · skip
          have hb_2 := k_ff huA c_1
          refine k_iload F (pc := 72) 6 rfl dX3_areVariablesRight_72 ?_
          refine k_if_eqB F (pc := 74) 84 dX3_areVariablesRight_74 (by decide) (fun c_3 => ?_) (fun c_3 => ?_)
          · skip
            have hb_4 := k_ff huB c_3
            refine k_iload F (pc := 84) 0 rfl dX3_areVariablesRight_84 ?_
            refine k_if_eqB F (pc := 86) 96 dX3_areVariablesRight_86 (by decide) (fun c_5 => ?_) (fun c_5 => ?_)
            · skip
              have hb_6 := k_ff huC c_5
              refine k_iconst F (pc := 96) ((nI 1)) dX3_areVariablesRight_96 (by decide) ?_
              refine k_goto F (pc := 97) 101 dX3_areVariablesRight_97 (by decide) ?_
              refine k_zret F Rr (pc := 101) true dX3_areVariablesRight_101 rfl ⟨rfl, true, rfl, ?_⟩
              first
              | exact ⟨fun _ => by omega, fun _ => rfl⟩
              | exact ⟨fun h => absurd h (by decide), fun h => by exfalso; omega⟩
            · skip
              have hb_7 := huC.mp c_5
              refine k_iload_n F (pc := 89) 4 rfl dX3_areVariablesRight_89 rfl ?_
              refine k_callS F (pc := 90) [.int c] [] 1 (m_X3_isVariable l E c) dX3_areVariablesRight_90 gX3_areVariablesRight_X3_isVariable rfl (by decide +kernel) rfl ⟨rfl, rfl⟩ (by decide) rfl (Nat.le_of_ble_eq_true rfl) (by decide) ?_
              rintro v_10 ⟨r_8, rfl, hc_9⟩
              show kK g [] [(6, .int (bI uC)), (0, .int o), (1, .int a), (2, .int b), (3, .int c), (4, .int (bI uA)), (5, .int (bI uB))] 0 0 93 [.int (bI r_8)]
              refine k_if_eqB F (pc := 93) 100 dX3_areVariablesRight_93 (by decide) (fun c_12 => ?_) (fun c_12 => ?_)
              · skip
                have hb_13 := k_ff hc_9 c_12
                refine k_iconst F (pc := 100) ((nI 0)) dX3_areVariablesRight_100 (by decide) ?_
                refine k_zret F Rr (pc := 101) false dX3_areVariablesRight_101 rfl ⟨rfl, false, rfl, ?_⟩
                first
                | exact ⟨fun _ => by omega, fun _ => rfl⟩
                | exact ⟨fun h => absurd h (by decide), fun h => by exfalso; omega⟩
              · skip
                have hb_14 := hc_9.mp c_12
                refine k_iconst F (pc := 96) ((nI 1)) dX3_areVariablesRight_96 (by decide) ?_
                refine k_goto F (pc := 97) 101 dX3_areVariablesRight_97 (by decide) ?_
                refine k_zret F Rr (pc := 101) true dX3_areVariablesRight_101 rfl ⟨rfl, true, rfl, ?_⟩
                first
                | exact ⟨fun _ => by omega, fun _ => rfl⟩
                | exact ⟨fun h => absurd h (by decide), fun h => by exfalso; omega⟩
          · skip
            have hb_15 := huB.mp c_3
            refine k_iload_n F (pc := 77) 3 rfl dX3_areVariablesRight_77 rfl ?_
            refine k_callS F (pc := 78) [.int b] [] 1 (m_X3_isVariable l E b) dX3_areVariablesRight_78 gX3_areVariablesRight_X3_isVariable rfl (by decide +kernel) rfl ⟨rfl, rfl⟩ (by decide) rfl (Nat.le_of_ble_eq_true rfl) (by decide) ?_
            rintro v_18 ⟨r_16, rfl, hc_17⟩
            show kK g [] [(6, .int (bI uC)), (0, .int o), (1, .int a), (2, .int b), (3, .int c), (4, .int (bI uA)), (5, .int (bI uB))] 0 0 81 [.int (bI r_16)]
            refine k_if_eqB F (pc := 81) 100 dX3_areVariablesRight_81 (by decide) (fun c_20 => ?_) (fun c_20 => ?_)
            · skip
              have hb_21 := k_ff hc_17 c_20
              refine k_iconst F (pc := 100) ((nI 0)) dX3_areVariablesRight_100 (by decide) ?_
              refine k_zret F Rr (pc := 101) false dX3_areVariablesRight_101 rfl ⟨rfl, false, rfl, ?_⟩
              first
              | exact ⟨fun _ => by omega, fun _ => rfl⟩
              | exact ⟨fun h => absurd h (by decide), fun h => by exfalso; omega⟩
            · skip
              have hb_22 := hc_17.mp c_20
              refine k_iload F (pc := 84) 0 rfl dX3_areVariablesRight_84 ?_
              refine k_if_eqB F (pc := 86) 96 dX3_areVariablesRight_86 (by decide) (fun c_23 => ?_) (fun c_23 => ?_)
              · skip
                have hb_24 := k_ff huC c_23
                refine k_iconst F (pc := 96) ((nI 1)) dX3_areVariablesRight_96 (by decide) ?_
                refine k_goto F (pc := 97) 101 dX3_areVariablesRight_97 (by decide) ?_
                refine k_zret F Rr (pc := 101) true dX3_areVariablesRight_101 rfl ⟨rfl, true, rfl, ?_⟩
                first
                | exact ⟨fun _ => by omega, fun _ => rfl⟩
                | exact ⟨fun h => absurd h (by decide), fun h => by exfalso; omega⟩
              · skip
                have hb_25 := huC.mp c_23
                refine k_iload_n F (pc := 89) 4 rfl dX3_areVariablesRight_89 rfl ?_
                refine k_callS F (pc := 90) [.int c] [] 1 (m_X3_isVariable l E c) dX3_areVariablesRight_90 gX3_areVariablesRight_X3_isVariable rfl (by decide +kernel) rfl ⟨rfl, rfl⟩ (by decide) rfl (Nat.le_of_ble_eq_true rfl) (by decide) ?_
                rintro v_28 ⟨r_26, rfl, hc_27⟩
                show kK g [] [(6, .int (bI uC)), (0, .int o), (1, .int a), (2, .int b), (3, .int c), (4, .int (bI uA)), (5, .int (bI uB))] 0 0 93 [.int (bI r_26)]
                refine k_if_eqB F (pc := 93) 100 dX3_areVariablesRight_93 (by decide) (fun c_30 => ?_) (fun c_30 => ?_)
                · skip
                  have hb_31 := k_ff hc_27 c_30
                  refine k_iconst F (pc := 100) ((nI 0)) dX3_areVariablesRight_100 (by decide) ?_
                  refine k_zret F Rr (pc := 101) false dX3_areVariablesRight_101 rfl ⟨rfl, false, rfl, ?_⟩
                  first
                  | exact ⟨fun _ => by omega, fun _ => rfl⟩
                  | exact ⟨fun h => absurd h (by decide), fun h => by exfalso; omega⟩
                · skip
                  have hb_32 := hc_27.mp c_30
                  refine k_iconst F (pc := 96) ((nI 1)) dX3_areVariablesRight_96 (by decide) ?_
                  refine k_goto F (pc := 97) 101 dX3_areVariablesRight_97 (by decide) ?_
                  refine k_zret F Rr (pc := 101) true dX3_areVariablesRight_101 rfl ⟨rfl, true, rfl, ?_⟩
                  first
                  | exact ⟨fun _ => by omega, fun _ => rfl⟩
                  | exact ⟨fun h => absurd h (by decide), fun h => by exfalso; omega⟩
        · skip
          have hb_33 := huA.mp c_1
          refine k_iload_n F (pc := 65) 2 rfl dX3_areVariablesRight_65 rfl ?_
          refine k_callS F (pc := 66) [.int a] [] 1 (m_X3_isVariable l E a) dX3_areVariablesRight_66 gX3_areVariablesRight_X3_isVariable rfl (by decide +kernel) rfl ⟨rfl, rfl⟩ (by decide) rfl (Nat.le_of_ble_eq_true rfl) (by decide) ?_
          rintro v_36 ⟨r_34, rfl, hc_35⟩
          show kK g [] [(6, .int (bI uC)), (0, .int o), (1, .int a), (2, .int b), (3, .int c), (4, .int (bI uA)), (5, .int (bI uB))] 0 0 69 [.int (bI r_34)]
          refine k_if_eqB F (pc := 69) 100 dX3_areVariablesRight_69 (by decide) (fun c_38 => ?_) (fun c_38 => ?_)
          · skip
            have hb_39 := k_ff hc_35 c_38
            refine k_iconst F (pc := 100) ((nI 0)) dX3_areVariablesRight_100 (by decide) ?_
            refine k_zret F Rr (pc := 101) false dX3_areVariablesRight_101 rfl ⟨rfl, false, rfl, ?_⟩
            first
            | exact ⟨fun _ => by omega, fun _ => rfl⟩
            | exact ⟨fun h => absurd h (by decide), fun h => by exfalso; omega⟩
          · skip
            have hb_40 := hc_35.mp c_38
            refine k_iload F (pc := 72) 6 rfl dX3_areVariablesRight_72 ?_
            refine k_if_eqB F (pc := 74) 84 dX3_areVariablesRight_74 (by decide) (fun c_41 => ?_) (fun c_41 => ?_)
            · skip
              have hb_42 := k_ff huB c_41
              refine k_iload F (pc := 84) 0 rfl dX3_areVariablesRight_84 ?_
              refine k_if_eqB F (pc := 86) 96 dX3_areVariablesRight_86 (by decide) (fun c_43 => ?_) (fun c_43 => ?_)
              · skip
                have hb_44 := k_ff huC c_43
                refine k_iconst F (pc := 96) ((nI 1)) dX3_areVariablesRight_96 (by decide) ?_
                refine k_goto F (pc := 97) 101 dX3_areVariablesRight_97 (by decide) ?_
                refine k_zret F Rr (pc := 101) true dX3_areVariablesRight_101 rfl ⟨rfl, true, rfl, ?_⟩
                first
                | exact ⟨fun _ => by omega, fun _ => rfl⟩
                | exact ⟨fun h => absurd h (by decide), fun h => by exfalso; omega⟩
              · skip
                have hb_45 := huC.mp c_43
                refine k_iload_n F (pc := 89) 4 rfl dX3_areVariablesRight_89 rfl ?_
                refine k_callS F (pc := 90) [.int c] [] 1 (m_X3_isVariable l E c) dX3_areVariablesRight_90 gX3_areVariablesRight_X3_isVariable rfl (by decide +kernel) rfl ⟨rfl, rfl⟩ (by decide) rfl (Nat.le_of_ble_eq_true rfl) (by decide) ?_
                rintro v_48 ⟨r_46, rfl, hc_47⟩
                show kK g [] [(6, .int (bI uC)), (0, .int o), (1, .int a), (2, .int b), (3, .int c), (4, .int (bI uA)), (5, .int (bI uB))] 0 0 93 [.int (bI r_46)]
                refine k_if_eqB F (pc := 93) 100 dX3_areVariablesRight_93 (by decide) (fun c_50 => ?_) (fun c_50 => ?_)
                · skip
                  have hb_51 := k_ff hc_47 c_50
                  refine k_iconst F (pc := 100) ((nI 0)) dX3_areVariablesRight_100 (by decide) ?_
                  refine k_zret F Rr (pc := 101) false dX3_areVariablesRight_101 rfl ⟨rfl, false, rfl, ?_⟩
                  first
                  | exact ⟨fun _ => by omega, fun _ => rfl⟩
                  | exact ⟨fun h => absurd h (by decide), fun h => by exfalso; omega⟩
                · skip
                  have hb_52 := hc_47.mp c_50
                  refine k_iconst F (pc := 96) ((nI 1)) dX3_areVariablesRight_96 (by decide) ?_
                  refine k_goto F (pc := 97) 101 dX3_areVariablesRight_97 (by decide) ?_
                  refine k_zret F Rr (pc := 101) true dX3_areVariablesRight_101 rfl ⟨rfl, true, rfl, ?_⟩
                  first
                  | exact ⟨fun _ => by omega, fun _ => rfl⟩
                  | exact ⟨fun h => absurd h (by decide), fun h => by exfalso; omega⟩
            · skip
              have hb_53 := huB.mp c_41
              refine k_iload_n F (pc := 77) 3 rfl dX3_areVariablesRight_77 rfl ?_
              refine k_callS F (pc := 78) [.int b] [] 1 (m_X3_isVariable l E b) dX3_areVariablesRight_78 gX3_areVariablesRight_X3_isVariable rfl (by decide +kernel) rfl ⟨rfl, rfl⟩ (by decide) rfl (Nat.le_of_ble_eq_true rfl) (by decide) ?_
              rintro v_56 ⟨r_54, rfl, hc_55⟩
              show kK g [] [(6, .int (bI uC)), (0, .int o), (1, .int a), (2, .int b), (3, .int c), (4, .int (bI uA)), (5, .int (bI uB))] 0 0 81 [.int (bI r_54)]
              refine k_if_eqB F (pc := 81) 100 dX3_areVariablesRight_81 (by decide) (fun c_58 => ?_) (fun c_58 => ?_)
              · skip
                have hb_59 := k_ff hc_55 c_58
                refine k_iconst F (pc := 100) ((nI 0)) dX3_areVariablesRight_100 (by decide) ?_
                refine k_zret F Rr (pc := 101) false dX3_areVariablesRight_101 rfl ⟨rfl, false, rfl, ?_⟩
                first
                | exact ⟨fun _ => by omega, fun _ => rfl⟩
                | exact ⟨fun h => absurd h (by decide), fun h => by exfalso; omega⟩
              · skip
                have hb_60 := hc_55.mp c_58
                refine k_iload F (pc := 84) 0 rfl dX3_areVariablesRight_84 ?_
                refine k_if_eqB F (pc := 86) 96 dX3_areVariablesRight_86 (by decide) (fun c_61 => ?_) (fun c_61 => ?_)
                · skip
                  have hb_62 := k_ff huC c_61
                  refine k_iconst F (pc := 96) ((nI 1)) dX3_areVariablesRight_96 (by decide) ?_
                  refine k_goto F (pc := 97) 101 dX3_areVariablesRight_97 (by decide) ?_
                  refine k_zret F Rr (pc := 101) true dX3_areVariablesRight_101 rfl ⟨rfl, true, rfl, ?_⟩
                  first
                  | exact ⟨fun _ => by omega, fun _ => rfl⟩
                  | exact ⟨fun h => absurd h (by decide), fun h => by exfalso; omega⟩
                · skip
                  have hb_63 := huC.mp c_61
                  refine k_iload_n F (pc := 89) 4 rfl dX3_areVariablesRight_89 rfl ?_
                  refine k_callS F (pc := 90) [.int c] [] 1 (m_X3_isVariable l E c) dX3_areVariablesRight_90 gX3_areVariablesRight_X3_isVariable rfl (by decide +kernel) rfl ⟨rfl, rfl⟩ (by decide) rfl (Nat.le_of_ble_eq_true rfl) (by decide) ?_
                  rintro v_66 ⟨r_64, rfl, hc_65⟩
                  show kK g [] [(6, .int (bI uC)), (0, .int o), (1, .int a), (2, .int b), (3, .int c), (4, .int (bI uA)), (5, .int (bI uB))] 0 0 93 [.int (bI r_64)]
                  refine k_if_eqB F (pc := 93) 100 dX3_areVariablesRight_93 (by decide) (fun c_68 => ?_) (fun c_68 => ?_)
                  · skip
                    have hb_69 := k_ff hc_65 c_68
                    refine k_iconst F (pc := 100) ((nI 0)) dX3_areVariablesRight_100 (by decide) ?_
                    refine k_zret F Rr (pc := 101) false dX3_areVariablesRight_101 rfl ⟨rfl, false, rfl, ?_⟩
                    first
                    | exact ⟨fun _ => by omega, fun _ => rfl⟩
                    | exact ⟨fun h => absurd h (by decide), fun h => by exfalso; omega⟩
                  · skip
                    have hb_70 := hc_65.mp c_68
                    refine k_iconst F (pc := 96) ((nI 1)) dX3_areVariablesRight_96 (by decide) ?_
                    refine k_goto F (pc := 97) 101 dX3_areVariablesRight_97 (by decide) ?_
                    refine k_zret F Rr (pc := 101) true dX3_areVariablesRight_101 rfl ⟨rfl, true, rfl, ?_⟩
                    first
                    | exact ⟨fun _ => by omega, fun _ => rfl⟩
                    | exact ⟨fun h => absurd h (by decide), fun h => by exfalso; omega⟩
      refine k_iload_n F (pc := 42) 1 rfl dX3_areVariablesRight_42 rfl ?_
      refine k_iconst F (pc := 43) ((nI 3)) dX3_areVariablesRight_43 (by decide) ?_
      refine k_icmp_lt F (pc := 44) 57 dX3_areVariablesRight_44 (by decide) rfl (show (nI 3 : Int32).toInt = 3 by decide) (fun c_71 => ?_) (fun c_71 => ?_)
      · skip
        refine k_iconst F (pc := 57) ((nI 0)) dX3_areVariablesRight_57 (by decide) ?_
        refine k_lv [(0, .int o), (1, .int a), (2, .int b), (3, .int c), (4, .int (bI uA)), (5, .int (bI uB))] [1, 2, 3, 4, 5, 0] rfl ?_
        exact J58 false (by first | exact ⟨fun _ => by omega, fun _ => rfl⟩ | exact ⟨fun h => absurd h (by decide), fun h => by exfalso; omega⟩)
      · skip
        refine k_iload_n F (pc := 47) 1 rfl dX3_areVariablesRight_47 rfl ?_
        refine k_bipush F (pc := 48) ((nI 6)) dX3_areVariablesRight_48 (by decide) ?_
        refine k_icmp_gt F (pc := 50) 57 dX3_areVariablesRight_50 (by decide) rfl (show (nI 6 : Int32).toInt = 6 by decide) (fun c_72 => ?_) (fun c_72 => ?_)
        · skip
          refine k_iconst F (pc := 57) ((nI 0)) dX3_areVariablesRight_57 (by decide) ?_
          refine k_lv [(0, .int o), (1, .int a), (2, .int b), (3, .int c), (4, .int (bI uA)), (5, .int (bI uB))] [1, 2, 3, 4, 5, 0] rfl ?_
          exact J58 false (by first | exact ⟨fun _ => by omega, fun _ => rfl⟩ | exact ⟨fun h => absurd h (by decide), fun h => by exfalso; omega⟩)
        · skip
          refine k_iconst F (pc := 53) ((nI 1)) dX3_areVariablesRight_53 (by decide) ?_
          refine k_goto F (pc := 54) 58 dX3_areVariablesRight_54 (by decide) ?_
          refine k_lv [(0, .int o), (1, .int a), (2, .int b), (3, .int c), (4, .int (bI uA)), (5, .int (bI uB))] [1, 2, 3, 4, 5, 0] rfl ?_
          exact J58 true (by first | exact ⟨fun _ => by omega, fun _ => rfl⟩ | exact ⟨fun h => absurd h (by decide), fun h => by exfalso; omega⟩)
    refine k_iload_n F (pc := 24) 1 rfl dX3_areVariablesRight_24 rfl ?_
    refine k_iconst F (pc := 25) ((nI 2)) dX3_areVariablesRight_25 (by decide) ?_
    refine k_icmp_lt F (pc := 26) 39 dX3_areVariablesRight_26 (by decide) rfl (show (nI 2 : Int32).toInt = 2 by decide) (fun c_73 => ?_) (fun c_73 => ?_)
    · skip
      refine k_iconst F (pc := 39) ((nI 0)) dX3_areVariablesRight_39 (by decide) ?_
      refine k_lv [(0, .int o), (1, .int a), (2, .int b), (3, .int c), (4, .int (bI uA))] [1, 2, 3, 4, 0] rfl ?_
      exact J40 false (by first | exact ⟨fun _ => by omega, fun _ => rfl⟩ | exact ⟨fun h => absurd h (by decide), fun h => by exfalso; omega⟩)
    · skip
      refine k_iload_n F (pc := 29) 1 rfl dX3_areVariablesRight_29 rfl ?_
      refine k_bipush F (pc := 30) ((nI 9)) dX3_areVariablesRight_30 (by decide) ?_
      refine k_icmp_gt F (pc := 32) 39 dX3_areVariablesRight_32 (by decide) rfl (show (nI 9 : Int32).toInt = 9 by decide) (fun c_74 => ?_) (fun c_74 => ?_)
      · skip
        refine k_iconst F (pc := 39) ((nI 0)) dX3_areVariablesRight_39 (by decide) ?_
        refine k_lv [(0, .int o), (1, .int a), (2, .int b), (3, .int c), (4, .int (bI uA))] [1, 2, 3, 4, 0] rfl ?_
        exact J40 false (by first | exact ⟨fun _ => by omega, fun _ => rfl⟩ | exact ⟨fun h => absurd h (by decide), fun h => by exfalso; omega⟩)
      · skip
        refine k_iconst F (pc := 35) ((nI 1)) dX3_areVariablesRight_35 (by decide) ?_
        refine k_goto F (pc := 36) 40 dX3_areVariablesRight_36 (by decide) ?_
        refine k_lv [(0, .int o), (1, .int a), (2, .int b), (3, .int c), (4, .int (bI uA))] [1, 2, 3, 4, 0] rfl ?_
        exact J40 true (by first | exact ⟨fun _ => by omega, fun _ => rfl⟩ | exact ⟨fun h => absurd h (by decide), fun h => by exfalso; omega⟩)
  refine k_iload_n F (pc := 0) 0 rfl dX3_areVariablesRight_0 rfl ?_
  refine k_iconst F (pc := 1) ((nI 1)) dX3_areVariablesRight_1 (by decide) ?_
  refine k_icmp_lt F (pc := 2) 11 dX3_areVariablesRight_2 (by decide) rfl (show (nI 1 : Int32).toInt = 1 by decide) (fun c_75 => ?_) (fun c_75 => ?_)
  · skip
    refine k_iload_n F (pc := 11) 0 rfl dX3_areVariablesRight_11 rfl ?_
    refine k_bipush F (pc := 12) ((nI 11)) dX3_areVariablesRight_12 (by decide) ?_
    refine k_icmp_ne F (pc := 14) 21 dX3_areVariablesRight_14 (by decide) rfl (show (nI 11 : Int32).toInt = 11 by decide) (fun c_76 => ?_) (fun c_76 => ?_)
    · skip
      refine k_iconst F (pc := 21) ((nI 0)) dX3_areVariablesRight_21 (by decide) ?_
      refine k_lv [(0, .int o), (1, .int a), (2, .int b), (3, .int c)] [0, 1, 2, 3] rfl ?_
      exact J22 false (by first | exact ⟨fun _ => by omega, fun _ => rfl⟩ | exact ⟨fun h => absurd h (by decide), fun h => by exfalso; omega⟩)
    · skip
      refine k_iconst F (pc := 17) ((nI 1)) dX3_areVariablesRight_17 (by decide) ?_
      refine k_goto F (pc := 18) 22 dX3_areVariablesRight_18 (by decide) ?_
      refine k_lv [(0, .int o), (1, .int a), (2, .int b), (3, .int c)] [0, 1, 2, 3] rfl ?_
      exact J22 true (by first | exact ⟨fun _ => by omega, fun _ => rfl⟩ | exact ⟨fun h => absurd h (by decide), fun h => by exfalso; omega⟩)
  · skip
    refine k_iload_n F (pc := 5) 0 rfl dX3_areVariablesRight_5 rfl ?_
    refine k_bipush F (pc := 6) ((nI 9)) dX3_areVariablesRight_6 (by decide) ?_
    refine k_icmp_le F (pc := 8) 17 dX3_areVariablesRight_8 (by decide) rfl (show (nI 9 : Int32).toInt = 9 by decide) (fun c_77 => ?_) (fun c_77 => ?_)
    · skip
      refine k_iconst F (pc := 17) ((nI 1)) dX3_areVariablesRight_17 (by decide) ?_
      refine k_goto F (pc := 18) 22 dX3_areVariablesRight_18 (by decide) ?_
      refine k_lv [(0, .int o), (1, .int a), (2, .int b), (3, .int c)] [0, 1, 2, 3] rfl ?_
      exact J22 true (by first | exact ⟨fun _ => by omega, fun _ => rfl⟩ | exact ⟨fun h => absurd h (by decide), fun h => by exfalso; omega⟩)
    · skip
      refine k_iload_n F (pc := 11) 0 rfl dX3_areVariablesRight_11 rfl ?_
      refine k_bipush F (pc := 12) ((nI 11)) dX3_areVariablesRight_12 (by decide) ?_
      refine k_icmp_ne F (pc := 14) 21 dX3_areVariablesRight_14 (by decide) rfl (show (nI 11 : Int32).toInt = 11 by decide) (fun c_78 => ?_) (fun c_78 => ?_)
      · skip
        refine k_iconst F (pc := 21) ((nI 0)) dX3_areVariablesRight_21 (by decide) ?_
        refine k_lv [(0, .int o), (1, .int a), (2, .int b), (3, .int c)] [0, 1, 2, 3] rfl ?_
        exact J22 false (by first | exact ⟨fun _ => by omega, fun _ => rfl⟩ | exact ⟨fun h => absurd h (by decide), fun h => by exfalso; omega⟩)
      · skip
        refine k_iconst F (pc := 17) ((nI 1)) dX3_areVariablesRight_17 (by decide) ?_
        refine k_goto F (pc := 18) 22 dX3_areVariablesRight_18 (by decide) ?_
        refine k_lv [(0, .int o), (1, .int a), (2, .int b), (3, .int c)] [0, 1, 2, 3] rfl ?_
        exact J22 true (by first | exact ⟨fun _ => by omega, fun _ => rfl⟩ | exact ⟨fun h => absurd h (by decide), fun h => by exfalso; omega⟩)
theorem zm_X3_isInstruction_f13 : (Cond.fieldLink RX3 13 RX3 "count" "I" : Cond) ∈ wsX3_isInstruction := by decide +kernel
theorem zin_X3_isInstruction_X3 : ∀ w ∈ u_ws RX3 TX3 8, w ∈ wsX3_isInstruction := by decide +kernel
set_option maxHeartbeats 4000000 in
set_option maxRecDepth 100000 in
theorem m_X3_isInstruction (l : Launch) (E : kE) (h : Nat → Nat) (cd : Nat → Int32) (n : Nat) (sc : Bool) (rt : Nat) (on : Nat → Bool) (lo : Nat → Int64) (hi : Nat → Int64) (son : Nat → Bool) (slo : Nat → Int64) (shi : Nat → Int64) (fs : Bool) (lf : Nat → Int64) (hf : Nat → Int64) (em : Bool) (le : Int64) (gr : Int64) (x : Int32) (hn : n ≤ 24) : kC l yX3_isInstruction wsX3_isInstruction ({ frames := 0, cells := 0, slots := 0, locals := 0 } : Room) E [.ref (h 0), .int x] (wX3 E h cd n sc rt on lo hi son slo shi fs lf hf em le gr) 0 0 (fun v_ w_ => ∃ (r : Bool), v_ = some (.int (bI r)) ∧ w_ = (wX3 E h cd n sc rt on lo hi son slo shi fs lf hf em le gr) ∧ (r = true ↔ 0 ≤ x.toInt ∧ x.toInt < (n : Int))) := by
  refine kC.enter cX3_isInstruction 2 (some .boolean) [(0, .ref (h 0)), (1, .int x)] (by decide) rfl (Nat.le_of_ble_eq_true rfl) rfl ?_
  intro g F Rr
  refine k_iload_n F (pc := 0) 1 rfl dX3_isInstruction_0 rfl ?_
  refine k_if_lt F (pc := 1) 16 dX3_isInstruction_1 (by decide) rfl (fun c_1 => ?_) (fun c_1 => ?_)
  · skip
    refine k_iconst F (pc := 16) ((nI 0)) dX3_isInstruction_16 (by decide) ?_
    refine k_zret F Rr (pc := 17) false dX3_isInstruction_17 rfl ⟨false, rfl, rfl, ?_⟩
    first
    | exact ⟨fun _ => by omega, fun _ => rfl⟩
    | exact ⟨fun h => absurd h (by decide), fun h => by exfalso; omega⟩
  · skip
    refine k_iload_n F (pc := 4) 1 rfl dX3_isInstruction_4 rfl ?_
    refine k_aload_n F (pc := 5) 0 rfl dX3_isInstruction_5 rfl ?_
    refine k_get F (pc := 6) (ref := RX3) (C := RX3) (T := TX3) (N := 8) (ci := 3) 0 1 dX3_isInstruction_6 zin_X3_isInstruction_X3 rfl rfl (by decide) zm_X3_isInstruction_f13 rfl rfl ?_
    refine k_icmp_ge F (pc := 9) 16 dX3_isInstruction_9 (by decide) rfl (nI_toInt (by omega)) (fun c_2 => ?_) (fun c_2 => ?_)
    · skip
      refine k_iconst F (pc := 16) ((nI 0)) dX3_isInstruction_16 (by decide) ?_
      refine k_zret F Rr (pc := 17) false dX3_isInstruction_17 rfl ⟨false, rfl, rfl, ?_⟩
      first
      | exact ⟨fun _ => by omega, fun _ => rfl⟩
      | exact ⟨fun h => absurd h (by decide), fun h => by exfalso; omega⟩
    · skip
      refine k_iconst F (pc := 12) ((nI 1)) dX3_isInstruction_12 (by decide) ?_
      refine k_goto F (pc := 13) 17 dX3_isInstruction_13 (by decide) ?_
      refine k_zret F Rr (pc := 17) true dX3_isInstruction_17 rfl ⟨true, rfl, rfl, ?_⟩
      first
      | exact ⟨fun _ => by omega, fun _ => rfl⟩
      | exact ⟨fun h => absurd h (by decide), fun h => by exfalso; omega⟩
theorem zm_X3_forgetScan_f17 : (Cond.fieldLink RX3 17 RX3 "scanned" "Z" : Cond) ∈ wsX3_forgetScan := by decide +kernel
theorem zin_X3_forgetScan_X3 : ∀ w ∈ u_ws RX3 TX3 8, w ∈ wsX3_forgetScan := by decide +kernel
theorem zm_X3_forgetScan_f21 : (Cond.fieldLink RX3 21 RX3 "roundsTaken" "I" : Cond) ∈ wsX3_forgetScan := by decide +kernel
set_option maxHeartbeats 4000000 in
set_option maxRecDepth 100000 in
theorem m_X3_forgetScan (l : Launch) (E : kE) (h : Nat → Nat) (cd : Nat → Int32) (n : Nat) (sc : Bool) (rt : Nat) (on : Nat → Bool) (lo : Nat → Int64) (hi : Nat → Int64) (son : Nat → Bool) (slo : Nat → Int64) (shi : Nat → Int64) (fs : Bool) (lf : Nat → Int64) (hf : Nat → Int64) (em : Bool) (le : Int64) (gr : Int64)  : kC l yX3_forgetScan wsX3_forgetScan ({ frames := 0, cells := 0, slots := 0, locals := 0 } : Room) E [.ref (h 0)] (wX3 E h cd n sc rt on lo hi son slo shi fs lf hf em le gr) 0 0 (fun v_ w_ => v_ = none ∧ w_ = (wX3 E h cd n false 0 on lo hi son slo shi fs lf hf em le gr)) := by
  refine kC.enter cX3_forgetScan 1 none [(0, .ref (h 0))] (by decide) rfl (Nat.le_of_ble_eq_true rfl) rfl ?_
  intro g F Rr
  refine k_aload_n F (pc := 0) 0 rfl dX3_forgetScan_0 rfl ?_
  refine k_iconst F (pc := 1) ((nI 0)) dX3_forgetScan_1 (by decide) ?_
  refine k_put F (pc := 2) (ref := RX3) (C := RX3) (T := TX3) (N := 8) (ci := 3) (ty := .boolean) (v := .int (bI false)) tyX3 0 2 (wX3 E h cd n false rt on lo hi son slo shi fs lf hf em le gr) dX3_forgetScan_2 zin_X3_forgetScan_X3 tyX3_ok nmX3 rfl rfl (by decide) zm_X3_forgetScan_f17 rfl rfl (by decide +kernel) rfl rfl (Nat.le_of_ble_eq_true rfl) rfl ?_
  refine k_aload_n F (pc := 5) 0 rfl dX3_forgetScan_5 rfl ?_
  refine k_iconst F (pc := 6) ((nI 0)) dX3_forgetScan_6 (by decide) ?_
  refine k_put F (pc := 7) (ref := RX3) (C := RX3) (T := TX3) (N := 8) (ci := 3) (ty := .int) (v := .int (nI 0)) tyX3 0 3 (wX3 E h cd n false 0 on lo hi son slo shi fs lf hf em le gr) dX3_forgetScan_7 zin_X3_forgetScan_X3 tyX3_ok nmX3 rfl rfl (by decide) zm_X3_forgetScan_f21 rfl rfl (by decide +kernel) rfl rfl (Nat.le_of_ble_eq_true rfl) rfl ?_
  exact k_vret F Rr (pc := 10) dX3_forgetScan_10 ⟨rfl, rfl⟩
theorem zm_X3_clear_f13 : (Cond.fieldLink RX3 13 RX3 "count" "I" : Cond) ∈ wsX3_clear := by decide +kernel
theorem zin_X3_clear_X3 : ∀ w ∈ u_ws RX3 TX3 8, w ∈ wsX3_clear := by decide +kernel
set_option maxHeartbeats 4000000 in
set_option maxRecDepth 100000 in
theorem m_X3_clear (l : Launch) (E : kE) (h : Nat → Nat) (cd : Nat → Int32) (n : Nat) (sc : Bool) (rt : Nat) (on : Nat → Bool) (lo : Nat → Int64) (hi : Nat → Int64) (son : Nat → Bool) (slo : Nat → Int64) (shi : Nat → Int64) (fs : Bool) (lf : Nat → Int64) (hf : Nat → Int64) (em : Bool) (le : Int64) (gr : Int64)  : kC l yX3_clear wsX3_clear ({ frames := 1, cells := 0, slots := 0, locals := 20 } : Room) E [.ref (h 0)] (wX3 E h cd n sc rt on lo hi son slo shi fs lf hf em le gr) 0 0 (fun v_ w_ => v_ = none ∧ w_ = (wX3 E h cd 0 false 0 on lo hi son slo shi fs lf hf em le gr)) := by
  refine kC.enter cX3_clear 1 none [(0, .ref (h 0))] (by decide) rfl (Nat.le_of_ble_eq_true rfl) rfl ?_
  intro g F Rr
  refine k_aload_n F (pc := 0) 0 rfl dX3_clear_0 rfl ?_
  refine k_iconst F (pc := 1) ((nI 0)) dX3_clear_1 (by decide) ?_
  refine k_put F (pc := 2) (ref := RX3) (C := RX3) (T := TX3) (N := 8) (ci := 3) (ty := .int) (v := .int (nI 0)) tyX3 0 1 (wX3 E h cd 0 sc rt on lo hi son slo shi fs lf hf em le gr) dX3_clear_2 zin_X3_clear_X3 tyX3_ok nmX3 rfl rfl (by decide) zm_X3_clear_f13 rfl rfl (by decide +kernel) rfl rfl (Nat.le_of_ble_eq_true rfl) rfl ?_
  refine k_aload_n F (pc := 5) 0 rfl dX3_clear_5 rfl ?_
  refine k_callV F (pc := 6) (C := RX3) (T := TX3) (N := 8) (ci := 3) [] [] 0 (wX3 E h cd 0 sc rt on lo hi son slo shi fs lf hf em le gr) [] [0, 1, 2, 3, 4, 5, 6, 7, 8, 9, 10, 11, 12, 13] [] (m_X3_forgetScan l E h cd 0 sc rt on lo hi son slo shi fs lf hf em le gr) dX3_clear_6 gX3_clear_X3_forgetScan rfl (by decide +kernel) rfl ⟨rfl, rfl⟩ (by decide) rfl (Nat.le_of_ble_eq_true rfl) (by decide) rfl rfl rfl rfl (by decide) (by decide) (by decide) ?_
  rintro v_1 w_2 ⟨rfl, rfl⟩
  refine k_perm (wX3 E h cd 0 false 0 on lo hi son slo shi fs lf hf em le gr) [0, 1, 2, 3, 4, 5, 6, 7, 8, 9, 10, 11, 12, 13] (by decide) rfl ?_
  show kK g (wX3 E h cd 0 false 0 on lo hi son slo shi fs lf hf em le gr) [(0, .ref (h 0))] 0 0 9 []
  exact k_vret F Rr (pc := 9) dX3_clear_9 ⟨rfl, rfl⟩
theorem zm_X3_size_f13 : (Cond.fieldLink RX3 13 RX3 "count" "I" : Cond) ∈ wsX3_size := by decide +kernel
theorem zin_X3_size_X3 : ∀ w ∈ u_ws RX3 TX3 8, w ∈ wsX3_size := by decide +kernel
set_option maxHeartbeats 4000000 in
set_option maxRecDepth 100000 in
theorem m_X3_size (l : Launch) (E : kE) (h : Nat → Nat) (cd : Nat → Int32) (n : Nat) (sc : Bool) (rt : Nat) (on : Nat → Bool) (lo : Nat → Int64) (hi : Nat → Int64) (son : Nat → Bool) (slo : Nat → Int64) (shi : Nat → Int64) (fs : Bool) (lf : Nat → Int64) (hf : Nat → Int64) (em : Bool) (le : Int64) (gr : Int64)  : kC l yX3_size wsX3_size ({ frames := 0, cells := 0, slots := 0, locals := 0 } : Room) E [.ref (h 0)] (wX3 E h cd n sc rt on lo hi son slo shi fs lf hf em le gr) 0 0 (fun v_ w_ => v_ = some (.int (nI n)) ∧ w_ = (wX3 E h cd n sc rt on lo hi son slo shi fs lf hf em le gr)) := by
  refine kC.enter cX3_size 1 (some .int) [(0, .ref (h 0))] (by decide) rfl (Nat.le_of_ble_eq_true rfl) rfl ?_
  intro g F Rr
  refine k_aload_n F (pc := 0) 0 rfl dX3_size_0 rfl ?_
  refine k_get F (pc := 1) (ref := RX3) (C := RX3) (T := TX3) (N := 8) (ci := 3) 0 1 dX3_size_1 zin_X3_size_X3 rfl rfl (by decide) zm_X3_size_f13 rfl rfl ?_
  exact k_iret F Rr (pc := 4) dX3_size_4 ⟨rfl, rfl⟩
theorem zm_X3_rounds_f21 : (Cond.fieldLink RX3 21 RX3 "roundsTaken" "I" : Cond) ∈ wsX3_rounds := by decide +kernel
theorem zin_X3_rounds_X3 : ∀ w ∈ u_ws RX3 TX3 8, w ∈ wsX3_rounds := by decide +kernel
set_option maxHeartbeats 4000000 in
set_option maxRecDepth 100000 in
theorem m_X3_rounds (l : Launch) (E : kE) (h : Nat → Nat) (cd : Nat → Int32) (n : Nat) (sc : Bool) (rt : Nat) (on : Nat → Bool) (lo : Nat → Int64) (hi : Nat → Int64) (son : Nat → Bool) (slo : Nat → Int64) (shi : Nat → Int64) (fs : Bool) (lf : Nat → Int64) (hf : Nat → Int64) (em : Bool) (le : Int64) (gr : Int64)  : kC l yX3_rounds wsX3_rounds ({ frames := 0, cells := 0, slots := 0, locals := 0 } : Room) E [.ref (h 0)] (wX3 E h cd n sc rt on lo hi son slo shi fs lf hf em le gr) 0 0 (fun v_ w_ => v_ = some (.int (nI rt)) ∧ w_ = (wX3 E h cd n sc rt on lo hi son slo shi fs lf hf em le gr)) := by
  refine kC.enter cX3_rounds 1 (some .int) [(0, .ref (h 0))] (by decide) rfl (Nat.le_of_ble_eq_true rfl) rfl ?_
  intro g F Rr
  refine k_aload_n F (pc := 0) 0 rfl dX3_rounds_0 rfl ?_
  refine k_get F (pc := 1) (ref := RX3) (C := RX3) (T := TX3) (N := 8) (ci := 3) 0 3 dX3_rounds_1 zin_X3_rounds_X3 rfl rfl (by decide) zm_X3_rounds_f21 rfl rfl ?_
  exact k_iret F Rr (pc := 4) dX3_rounds_4 ⟨rfl, rfl⟩
theorem zm_X3_add_f13 : (Cond.fieldLink RX3 13 RX3 "count" "I" : Cond) ∈ wsX3_add := by decide +kernel
theorem zin_X3_add_X3 : ∀ w ∈ u_ws RX3 TX3 8, w ∈ wsX3_add := by decide +kernel
theorem zm_X3_add_f9 : (Cond.fieldLink RX3 9 RX3 "codes" "[I" : Cond) ∈ wsX3_add := by decide +kernel
set_option maxHeartbeats 4000000 in
set_option maxRecDepth 100000 in
theorem m_X3_add (l : Launch) (E : kE) (h : Nat → Nat) (cd : Nat → Int32) (n : Nat) (sc : Bool) (rt : Nat) (on : Nat → Bool) (lo : Nat → Int64) (hi : Nat → Int64) (son : Nat → Bool) (slo : Nat → Int64) (shi : Nat → Int64) (fs : Bool) (lf : Nat → Int64) (hf : Nat → Int64) (em : Bool) (le : Int64) (gr : Int64) (o : Int32) (a : Int32) (b : Int32) (c : Int32) (hn : n ≤ 24) : kC l yX3_add wsX3_add ({ frames := 2, cells := 0, slots := 0, locals := 46 } : Room) E [.ref (h 0), .int o, .int a, .int b, .int c] (wX3 E h cd n sc rt on lo hi son slo shi fs lf hf em le gr) 0 0 (fun v_ w_ => ∃ (r : Int32) (cd1 : Nat → Int32) (n1 : Nat) (sc1 : Bool) (rt1 : Nat), v_ = some (.int r) ∧ w_ = (wX3 E h cd1 n1 sc1 rt1 on lo hi son slo shi fs lf hf em le gr) ∧ (addP cd n sc rt o a b c r cd1 n1 sc1 rt1)) := by
  refine kC.enter cX3_add 6 (some .int) [(0, .ref (h 0)), (1, .int o), (2, .int a), (3, .int b), (4, .int c)] (by decide) rfl (Nat.le_of_ble_eq_true rfl) rfl ?_
  intro g F Rr
  refine k_iload_n F (pc := 0) 1 rfl dX3_add_0 rfl ?_
  refine k_if_lt F (pc := 1) 30 dX3_add_1 (by decide) rfl (fun c_1 => ?_) (fun c_1 => ?_)
  · skip
    refine k_iconst F (pc := 30) ((-1)) dX3_add_30 (by decide) ?_
    refine k_iret F Rr (pc := 31) dX3_add_31 ⟨(-1), cd, n, sc, rt, rfl, rfl, ?_⟩
    exact Or.inl ⟨by unfold okI; omega, rfl, rfl, rfl, rfl, rfl⟩
  · skip
    refine k_iload_n F (pc := 4) 1 rfl dX3_add_4 rfl ?_
    refine k_bipush F (pc := 5) ((nI 11)) dX3_add_5 (by decide) ?_
    refine k_icmp_gt F (pc := 7) 30 dX3_add_7 (by decide) rfl (show (nI 11 : Int32).toInt = 11 by decide) (fun c_2 => ?_) (fun c_2 => ?_)
    · skip
      refine k_iconst F (pc := 30) ((-1)) dX3_add_30 (by decide) ?_
      refine k_iret F Rr (pc := 31) dX3_add_31 ⟨(-1), cd, n, sc, rt, rfl, rfl, ?_⟩
      exact Or.inl ⟨by unfold okI; omega, rfl, rfl, rfl, rfl, rfl⟩
    · skip
      refine k_iload_n F (pc := 10) 1 rfl dX3_add_10 rfl ?_
      refine k_iload_n F (pc := 11) 2 rfl dX3_add_11 rfl ?_
      refine k_iload_n F (pc := 12) 3 rfl dX3_add_12 rfl ?_
      refine k_iload F (pc := 13) 4 rfl dX3_add_13 ?_
      refine k_callS F (pc := 15) [.int o, .int a, .int b, .int c] [] 4 (m_X3_areVariablesRight l E o a b c) dX3_add_15 gX3_add_X3_areVariablesRight rfl (by decide +kernel) rfl ⟨rfl, rfl⟩ (by decide) rfl (Nat.le_of_ble_eq_true rfl) (by decide) ?_
      rintro v_5 ⟨r_3, rfl, hc_4⟩
      show kK g (wX3 E h cd n sc rt on lo hi son slo shi fs lf hf em le gr) [(0, .ref (h 0)), (1, .int o), (2, .int a), (3, .int b), (4, .int c)] 0 0 18 [.int (bI r_3)]
      refine k_if_eqB F (pc := 18) 30 dX3_add_18 (by decide) (fun c_7 => ?_) (fun c_7 => ?_)
      · skip
        have hb_8 := k_ff hc_4 c_7
        refine k_iconst F (pc := 30) ((-1)) dX3_add_30 (by decide) ?_
        refine k_iret F Rr (pc := 31) dX3_add_31 ⟨(-1), cd, n, sc, rt, rfl, rfl, ?_⟩
        exact Or.inl ⟨by unfold okI; omega, rfl, rfl, rfl, rfl, rfl⟩
      · skip
        have hb_9 := hc_4.mp c_7
        refine k_iload_n F (pc := 21) 1 rfl dX3_add_21 rfl ?_
        refine k_iload F (pc := 22) 4 rfl dX3_add_22 ?_
        refine k_callS F (pc := 24) [.int o, .int c] [] 2 (m_X3_isPlaceRight l E o c) dX3_add_24 gX3_add_X3_isPlaceRight rfl (by decide +kernel) rfl ⟨rfl, rfl⟩ (by decide) rfl (Nat.le_of_ble_eq_true rfl) (by decide) ?_
        rintro v_12 ⟨r_10, rfl, hc_11⟩
        show kK g (wX3 E h cd n sc rt on lo hi son slo shi fs lf hf em le gr) [(0, .ref (h 0)), (1, .int o), (2, .int a), (3, .int b), (4, .int c)] 0 0 27 [.int (bI r_10)]
        refine k_if_neB F (pc := 27) 32 dX3_add_27 (by decide) (fun c_14 => ?_) (fun c_14 => ?_)
        · skip
          have hb_15 := hc_11.mp c_14
          refine k_aload_n F (pc := 32) 0 rfl dX3_add_32 rfl ?_
          refine k_get F (pc := 33) (ref := RX3) (C := RX3) (T := TX3) (N := 8) (ci := 3) 0 1 dX3_add_33 zin_X3_add_X3 rfl rfl (by decide) zm_X3_add_f13 rfl rfl ?_
          refine k_bipush F (pc := 36) ((nI 24)) dX3_add_36 (by decide) ?_
          refine k_icmp_lt F (pc := 38) 44 dX3_add_38 (by decide) (nI_toInt (by omega)) (show (nI 24 : Int32).toInt = 24 by decide) (fun c_16 => ?_) (fun c_16 => ?_)
          · skip
            refine k_aload_n F (pc := 44) 0 rfl dX3_add_44 rfl ?_
            refine k_get F (pc := 45) (ref := RX3) (C := RX3) (T := TX3) (N := 8) (ci := 3) 0 1 dX3_add_45 zin_X3_add_X3 rfl rfl (by decide) zm_X3_add_f13 rfl rfl ?_
            refine k_iconst F (pc := 48) ((nI 4)) dX3_add_48 (by decide) ?_
            refine k_imulC F (pc := 49) dX3_add_49 ?_
            refine k_istore F (pc := 50) [(5, .int (nI (4 * n))), (0, .ref (h 0)), (1, .int o), (2, .int a), (3, .int b), (4, .int c)] dX3_add_50 (by decide) rfl ?_
            refine k_aload_n F (pc := 52) 1 rfl dX3_add_52 rfl ?_
            refine k_get F (pc := 53) (ref := RX3) (C := RX3) (T := TX3) (N := 8) (ci := 3) 0 0 dX3_add_53 zin_X3_add_X3 rfl rfl (by decide) zm_X3_add_f9 rfl rfl ?_
            refine k_iload F (pc := 56) 0 rfl dX3_add_56 ?_
            refine k_iconst F (pc := 58) ((nI 0)) dX3_add_58 (by decide) ?_
            refine k_iadd0 F (pc := 59) dX3_add_59 ?_
            refine k_iload_n F (pc := 60) 2 rfl dX3_add_60 rfl ?_
            refine k_iast F (pc := 61) 1 (fun cd_17 => (wX3 E h cd_17 n sc rt on lo hi son slo shi fs lf hf em le gr)) dX3_add_61 rfl (by omega) (by decide) (fun _ => rfl) (fun cd_17 ecd_17 => ?_)
            refine k_aload_n F (pc := 62) 1 rfl dX3_add_62 rfl ?_
            refine k_get F (pc := 63) (ref := RX3) (C := RX3) (T := TX3) (N := 8) (ci := 3) 0 0 dX3_add_63 zin_X3_add_X3 rfl rfl (by decide) zm_X3_add_f9 rfl rfl ?_
            refine k_iload F (pc := 66) 0 rfl dX3_add_66 ?_
            refine k_iconst F (pc := 68) ((nI 1)) dX3_add_68 (by decide) ?_
            refine k_iaddN F (pc := 69) dX3_add_69 ?_
            refine k_iload_n F (pc := 70) 3 rfl dX3_add_70 rfl ?_
            refine k_iast F (pc := 71) 1 (fun cd_18 => (wX3 E h cd_18 n sc rt on lo hi son slo shi fs lf hf em le gr)) dX3_add_71 rfl (by omega) (by decide) (fun _ => rfl) (fun cd_18 ecd_18 => ?_)
            refine k_aload_n F (pc := 72) 1 rfl dX3_add_72 rfl ?_
            refine k_get F (pc := 73) (ref := RX3) (C := RX3) (T := TX3) (N := 8) (ci := 3) 0 0 dX3_add_73 zin_X3_add_X3 rfl rfl (by decide) zm_X3_add_f9 rfl rfl ?_
            refine k_iload F (pc := 76) 0 rfl dX3_add_76 ?_
            refine k_iconst F (pc := 78) ((nI 2)) dX3_add_78 (by decide) ?_
            refine k_iaddN F (pc := 79) dX3_add_79 ?_
            refine k_iload_n F (pc := 80) 4 rfl dX3_add_80 rfl ?_
            refine k_iast F (pc := 81) 1 (fun cd_19 => (wX3 E h cd_19 n sc rt on lo hi son slo shi fs lf hf em le gr)) dX3_add_81 rfl (by omega) (by decide) (fun _ => rfl) (fun cd_19 ecd_19 => ?_)
            refine k_aload_n F (pc := 82) 1 rfl dX3_add_82 rfl ?_
            refine k_get F (pc := 83) (ref := RX3) (C := RX3) (T := TX3) (N := 8) (ci := 3) 0 0 dX3_add_83 zin_X3_add_X3 rfl rfl (by decide) zm_X3_add_f9 rfl rfl ?_
            refine k_iload F (pc := 86) 0 rfl dX3_add_86 ?_
            refine k_iconst F (pc := 88) ((nI 3)) dX3_add_88 (by decide) ?_
            refine k_iaddN F (pc := 89) dX3_add_89 ?_
            refine k_iload F (pc := 90) 5 rfl dX3_add_90 ?_
            refine k_iast F (pc := 92) 1 (fun cd_20 => (wX3 E h cd_20 n sc rt on lo hi son slo shi fs lf hf em le gr)) dX3_add_92 rfl (by omega) (by decide) (fun _ => rfl) (fun cd_20 ecd_20 => ?_)
            refine k_aload_n F (pc := 93) 1 rfl dX3_add_93 rfl ?_
            refine k_dup F (pc := 94) dX3_add_94 rfl ?_
            refine k_get F (pc := 95) (ref := RX3) (C := RX3) (T := TX3) (N := 8) (ci := 3) 0 1 dX3_add_95 zin_X3_add_X3 rfl rfl (by decide) zm_X3_add_f13 rfl rfl ?_
            refine k_iconst F (pc := 98) ((nI 1)) dX3_add_98 (by decide) ?_
            refine k_iaddN F (pc := 99) dX3_add_99 ?_
            refine k_put F (pc := 100) (ref := RX3) (C := RX3) (T := TX3) (N := 8) (ci := 3) (ty := .int) (v := .int (nI (n + 1))) tyX3 0 1 (wX3 E h cd_20 (n + 1) sc rt on lo hi son slo shi fs lf hf em le gr) dX3_add_100 zin_X3_add_X3 tyX3_ok nmX3 rfl rfl (by decide) zm_X3_add_f13 rfl rfl (by decide +kernel) rfl rfl (Nat.le_of_ble_eq_true rfl) rfl ?_
            refine k_aload_n F (pc := 103) 1 rfl dX3_add_103 rfl ?_
            refine k_callV F (pc := 104) (C := RX3) (T := TX3) (N := 8) (ci := 3) [] [] 0 (wX3 E h cd_20 (n + 1) sc rt on lo hi son slo shi fs lf hf em le gr) [] [0, 1, 2, 3, 4, 5, 6, 7, 8, 9, 10, 11, 12, 13] [] (m_X3_forgetScan l E h cd_20 (n + 1) sc rt on lo hi son slo shi fs lf hf em le gr) dX3_add_104 gX3_add_X3_forgetScan rfl (by decide +kernel) rfl ⟨rfl, rfl⟩ (by decide) rfl (Nat.le_of_ble_eq_true rfl) (by decide) rfl rfl rfl rfl (by decide) (by decide) (by decide) ?_
            rintro v_21 w_22 ⟨rfl, rfl⟩
            refine k_perm (wX3 E h cd_20 (n + 1) false 0 on lo hi son slo shi fs lf hf em le gr) [0, 1, 2, 3, 4, 5, 6, 7, 8, 9, 10, 11, 12, 13] (by decide) rfl ?_
            show kK g (wX3 E h cd_20 (n + 1) false 0 on lo hi son slo shi fs lf hf em le gr) [(5, .int (nI (4 * n))), (0, .ref (h 0)), (1, .int o), (2, .int a), (3, .int b), (4, .int c)] 0 0 107 []
            refine k_aload_n F (pc := 107) 1 rfl dX3_add_107 rfl ?_
            refine k_get F (pc := 108) (ref := RX3) (C := RX3) (T := TX3) (N := 8) (ci := 3) 0 1 dX3_add_108 zin_X3_add_X3 rfl rfl (by decide) zm_X3_add_f13 rfl rfl ?_
            refine k_iconst F (pc := 111) ((nI 1)) dX3_add_111 (by decide) ?_
            refine k_isubN F (pc := 112) dX3_add_112 (by omega) ?_
            subst ecd_20
            subst ecd_19
            subst ecd_18
            subst ecd_17
            refine k_iret F Rr (pc := 113) dX3_add_113 ⟨(nI ((n + 1) - 1)), _, _, _, _, rfl, rfl, ?_⟩
            exact Or.inr (Or.inr ⟨by unfold okI; omega, by omega, rfl, rfl, rfl, rfl, rfl⟩)
          · skip
            refine k_bipush F (pc := 41) ((-2)) dX3_add_41 (by decide) ?_
            refine k_iret F Rr (pc := 43) dX3_add_43 ⟨(-2), cd, n, sc, rt, rfl, rfl, ?_⟩
            exact Or.inr (Or.inl ⟨by unfold okI; omega, by omega, rfl, rfl, rfl, rfl, rfl⟩)
        · skip
          have hb_23 := k_ff hc_11 c_14
          refine k_iconst F (pc := 30) ((-1)) dX3_add_30 (by decide) ?_
          refine k_iret F Rr (pc := 31) dX3_add_31 ⟨(-1), cd, n, sc, rt, rfl, rfl, ?_⟩
          exact Or.inl ⟨by unfold okI; omega, rfl, rfl, rfl, rfl, rfl⟩
theorem zm_X3_code_f9 : (Cond.fieldLink RX3 9 RX3 "codes" "[I" : Cond) ∈ wsX3_code := by decide +kernel
theorem zin_X3_code_X3 : ∀ w ∈ u_ws RX3 TX3 8, w ∈ wsX3_code := by decide +kernel
set_option maxHeartbeats 4000000 in
set_option maxRecDepth 100000 in
theorem m_X3_code (l : Launch) (E : kE) (h : Nat → Nat) (cd : Nat → Int32) (n : Nat) (sc : Bool) (rt : Nat) (on : Nat → Bool) (lo : Nat → Int64) (hi : Nat → Int64) (son : Nat → Bool) (slo : Nat → Int64) (shi : Nat → Int64) (fs : Bool) (lf : Nat → Int64) (hf : Nat → Int64) (em : Bool) (le : Int64) (gr : Int64) (p : Int32) (f : Int32) (hn : n ≤ 24) : kC l yX3_code wsX3_code ({ frames := 1, cells := 0, slots := 0, locals := 21 } : Room) E [.ref (h 0), .int p, .int f] (wX3 E h cd n sc rt on lo hi son slo shi fs lf hf em le gr) 0 0 (fun v_ w_ => ∃ (r : Int32), v_ = some (.int r) ∧ w_ = (wX3 E h cd n sc rt on lo hi son slo shi fs lf hf em le gr) ∧ (r = codeV cd n p f)) := by
  refine kC.enter cX3_code 3 (some .int) [(0, .ref (h 0)), (1, .int p), (2, .int f)] (by decide) rfl (Nat.le_of_ble_eq_true rfl) rfl ?_
  intro g F Rr
  refine k_aload_n F (pc := 0) 0 rfl dX3_code_0 rfl ?_
  refine k_iload_n F (pc := 1) 1 rfl dX3_code_1 rfl ?_
  refine k_callV F (pc := 2) (C := RX3) (T := TX3) (N := 8) (ci := 3) [.int p] [] 1 (wX3 E h cd n sc rt on lo hi son slo shi fs lf hf em le gr) [] [0, 1, 2, 3, 4, 5, 6, 7, 8, 9, 10, 11, 12, 13] [] (m_X3_isInstruction l E h cd n sc rt on lo hi son slo shi fs lf hf em le gr p (by omega)) dX3_code_2 gX3_code_X3_isInstruction rfl (by decide +kernel) rfl ⟨rfl, rfl⟩ (by decide) rfl (Nat.le_of_ble_eq_true rfl) (by decide) rfl rfl rfl rfl (by decide) (by decide) (by decide) ?_
  rintro v_3 w_4 ⟨r_1, rfl, rfl, hc_2⟩
  refine k_perm (wX3 E h cd n sc rt on lo hi son slo shi fs lf hf em le gr) [0, 1, 2, 3, 4, 5, 6, 7, 8, 9, 10, 11, 12, 13] (by decide) rfl ?_
  show kK g (wX3 E h cd n sc rt on lo hi son slo shi fs lf hf em le gr) [(0, .ref (h 0)), (1, .int p), (2, .int f)] 0 0 5 [.int (bI r_1)]
  refine k_if_eqB F (pc := 5) 17 dX3_code_5 (by decide) (fun c_5 => ?_) (fun c_5 => ?_)
  · skip
    have hb_6 := k_ff hc_2 c_5
    refine k_bipush F (pc := 17) ((-9)) dX3_code_17 (by decide) ?_
    refine k_iret F Rr (pc := 19) dX3_code_19 ⟨(-9), rfl, rfl, ?_⟩
    rw [codeV, if_neg (by omega)]
  · skip
    have hb_7 := hc_2.mp c_5
    refine k_iload_n F (pc := 8) 2 rfl dX3_code_8 rfl ?_
    refine k_if_lt F (pc := 9) 17 dX3_code_9 (by decide) rfl (fun c_8 => ?_) (fun c_8 => ?_)
    · skip
      refine k_bipush F (pc := 17) ((-9)) dX3_code_17 (by decide) ?_
      refine k_iret F Rr (pc := 19) dX3_code_19 ⟨(-9), rfl, rfl, ?_⟩
      rw [codeV, if_neg (by omega)]
    · skip
      refine k_iload_n F (pc := 12) 2 rfl dX3_code_12 rfl ?_
      refine k_iconst F (pc := 13) ((nI 3)) dX3_code_13 (by decide) ?_
      refine k_icmp_le F (pc := 14) 20 dX3_code_14 (by decide) rfl (show (nI 3 : Int32).toInt = 3 by decide) (fun c_9 => ?_) (fun c_9 => ?_)
      · skip
        have hz_10 : p = nI p.toNatClampNeg := k_nC (by omega)
        have hz_10i := k_nCi (x := p) (by omega)
        have hz_11 : f = nI f.toNatClampNeg := k_nC (by omega)
        have hz_11i := k_nCi (x := f) (by omega)
        refine k_aload_n F (pc := 20) 0 rfl dX3_code_20 rfl ?_
        refine k_get F (pc := 21) (ref := RX3) (C := RX3) (T := TX3) (N := 8) (ci := 3) 0 0 dX3_code_21 zin_X3_code_X3 rfl rfl (by decide) zm_X3_code_f9 rfl rfl ?_
        refine k_iload_n F (pc := 24) 1 rfl dX3_code_24 rfl ?_
        refine k_topi (nI p.toNatClampNeg) hz_10 ?_
        refine k_iconst F (pc := 25) ((nI 4)) dX3_code_25 (by decide) ?_
        refine k_imulC F (pc := 26) dX3_code_26 ?_
        refine k_iload_n F (pc := 27) 2 rfl dX3_code_27 rfl ?_
        refine k_topi (nI f.toNatClampNeg) hz_11 ?_
        refine k_iaddN F (pc := 28) dX3_code_28 ?_
        refine k_iald F (pc := 29) 1 dX3_code_29 rfl (by omega) (by decide) ?_
        refine k_iret F Rr (pc := 30) dX3_code_30 ⟨(cd (4 * p.toNatClampNeg + f.toNatClampNeg)), rfl, rfl, ?_⟩
        rw [codeV, if_pos (by omega)]
      · skip
        refine k_bipush F (pc := 17) ((-9)) dX3_code_17 (by decide) ?_
        refine k_iret F Rr (pc := 19) dX3_code_19 ⟨(-9), rfl, rfl, ?_⟩
        rw [codeV, if_neg (by omega)]
theorem zm_X3_areAllPlacesInside_f13 : (Cond.fieldLink RX3 13 RX3 "count" "I" : Cond) ∈ wsX3_areAllPlacesInside := by decide +kernel
theorem zin_X3_areAllPlacesInside_X3 : ∀ w ∈ u_ws RX3 TX3 8, w ∈ wsX3_areAllPlacesInside := by decide +kernel
theorem zm_X3_areAllPlacesInside_f9 : (Cond.fieldLink RX3 9 RX3 "codes" "[I" : Cond) ∈ wsX3_areAllPlacesInside := by decide +kernel
set_option maxHeartbeats 4000000 in
set_option maxRecDepth 100000 in
theorem m_X3_areAllPlacesInside (l : Launch) (E : kE) (h : Nat → Nat) (cd : Nat → Int32) (n : Nat) (sc : Bool) (rt : Nat) (on : Nat → Bool) (lo : Nat → Int64) (hi : Nat → Int64) (son : Nat → Bool) (slo : Nat → Int64) (shi : Nat → Int64) (fs : Bool) (lf : Nat → Int64) (hf : Nat → Int64) (em : Bool) (le : Int64) (gr : Int64) (hn : n ≤ 24) : kC l yX3_areAllPlacesInside wsX3_areAllPlacesInside ({ frames := 1, cells := 0, slots := 0, locals := 21 } : Room) E [.ref (h 0)] (wX3 E h cd n sc rt on lo hi son slo shi fs lf hf em le gr) 0 0 (fun v_ w_ => ∃ (r : Bool), v_ = some (.int (bI r)) ∧ w_ = (wX3 E h cd n sc rt on lo hi son slo shi fs lf hf em le gr) ∧ (r = true ↔ ∀ p, p < n → ((cd (4 * p)).toInt = 9 ∨ (cd (4 * p)).toInt = 10) → 0 ≤ (cd (4 * p + 3)).toInt ∧ (cd (4 * p + 3)).toInt < (n : Int))) := by
  refine kC.enter cX3_areAllPlacesInside 3 (some .boolean) [(0, .ref (h 0))] (by decide) rfl (Nat.le_of_ble_eq_true rfl) rfl ?_
  intro g F Rr
  refine k_iconst F (pc := 0) ((nI 0)) dX3_areAllPlacesInside_0 (by decide) ?_
  refine k_istore_n F (pc := 1) [(1, .int (nI 0)), (0, .ref (h 0))] dX3_areAllPlacesInside_1 rfl (by decide) rfl ?_
  have L2 : ∀ (d_ : Nat) (i : Nat), n - i < d_ → (i ≤ n) → (∀ p, p < i → ((cd (4 * p)).toInt = 9 ∨ (cd (4 * p)).toInt = 10) → 0 ≤ (cd (4 * p + 3)).toInt ∧ (cd (4 * p + 3)).toInt < (n : Int)) → kK g (wX3 E h cd n sc rt on lo hi son slo shi fs lf hf em le gr) [(0, .ref (h 0)), (1, .int (nI i))] 0 0 2 [] := by
    intro d_
    induction d_ with
    | zero => intro i hm; exact absurd hm (Nat.not_lt_zero _)
    | succ d_ ih2 =>
      intro i hm2 hin hal
      refine k_iload_n F (pc := 2) 1 rfl dX3_areAllPlacesInside_2 rfl ?_
      refine k_aload_n F (pc := 3) 0 rfl dX3_areAllPlacesInside_3 rfl ?_
      refine k_get F (pc := 4) (ref := RX3) (C := RX3) (T := TX3) (N := 8) (ci := 3) 0 1 dX3_areAllPlacesInside_4 zin_X3_areAllPlacesInside_X3 rfl rfl (by decide) zm_X3_areAllPlacesInside_f13 rfl rfl ?_
      refine k_icmp_ge F (pc := 7) 51 dX3_areAllPlacesInside_7 (by decide) (nI_toInt (by omega)) (nI_toInt (by omega)) (fun c_1 => ?_) (fun c_1 => ?_)
      · skip
        refine k_iconst F (pc := 51) ((nI 1)) dX3_areAllPlacesInside_51 (by decide) ?_
        refine k_zret F Rr (pc := 52) true dX3_areAllPlacesInside_52 rfl ⟨true, rfl, rfl, ?_⟩
        exact ⟨fun _ p hp => hal p (by omega), fun _ => rfl⟩
      · skip
        refine k_iload_n F (pc := 10) 1 rfl dX3_areAllPlacesInside_10 rfl ?_
        refine k_iconst F (pc := 11) ((nI 4)) dX3_areAllPlacesInside_11 (by decide) ?_
        refine k_imulC F (pc := 12) dX3_areAllPlacesInside_12 ?_
        refine k_istore_n F (pc := 13) [(2, .int (nI (4 * i))), (0, .ref (h 0)), (1, .int (nI i))] dX3_areAllPlacesInside_13 rfl (by decide) rfl ?_
        refine k_aload_n F (pc := 14) 1 rfl dX3_areAllPlacesInside_14 rfl ?_
        refine k_get F (pc := 15) (ref := RX3) (C := RX3) (T := TX3) (N := 8) (ci := 3) 0 0 dX3_areAllPlacesInside_15 zin_X3_areAllPlacesInside_X3 rfl rfl (by decide) zm_X3_areAllPlacesInside_f9 rfl rfl ?_
        refine k_iload_n F (pc := 18) 0 rfl dX3_areAllPlacesInside_18 rfl ?_
        refine k_iconst F (pc := 19) ((nI 0)) dX3_areAllPlacesInside_19 (by decide) ?_
        refine k_iadd0 F (pc := 20) dX3_areAllPlacesInside_20 ?_
        refine k_iald F (pc := 21) 1 dX3_areAllPlacesInside_21 rfl (by omega) (by decide) ?_
        refine k_callS F (pc := 22) [.int (cd (4 * i))] [] 1 (m_X3_goesOnAtC l E (cd (4 * i))) dX3_areAllPlacesInside_22 gX3_areAllPlacesInside_X3_goesOnAtC rfl (by decide +kernel) rfl ⟨rfl, rfl⟩ (by decide) rfl (Nat.le_of_ble_eq_true rfl) (by decide) ?_
        rintro v_4 ⟨r_2, rfl, hc_3⟩
        show kK g (wX3 E h cd n sc rt on lo hi son slo shi fs lf hf em le gr) [(2, .int (nI (4 * i))), (0, .ref (h 0)), (1, .int (nI i))] 0 0 25 [.int (bI r_2)]
        refine k_if_eqB F (pc := 25) 45 dX3_areAllPlacesInside_25 (by decide) (fun c_6 => ?_) (fun c_6 => ?_)
        · skip
          have hb_7 := k_ff hc_3 c_6
          refine k_iinc F (pc := 45) 2 ((nI (i + 1))) [(1, .int (nI (i + 1))), (2, .int (nI (4 * i))), (0, .ref (h 0))] dX3_areAllPlacesInside_45 rfl (nI_1 i) (by decide) rfl ?_
          refine k_goto F (pc := 48) 2 dX3_areAllPlacesInside_48 (by decide) ?_
          refine k_lv [(0, .ref (h 0)), (1, .int (nI (i + 1)))] [2, 0] rfl ?_
          exact ih2 (i + 1) (by omega) (by omega) (by exact lt_s hal (by intro ho; first | assumption | (exfalso; exact absurd ho (by assumption)) | omega))
        · skip
          have hb_8 := hc_3.mp c_6
          refine k_aload_n F (pc := 28) 1 rfl dX3_areAllPlacesInside_28 rfl ?_
          refine k_aload_n F (pc := 29) 1 rfl dX3_areAllPlacesInside_29 rfl ?_
          refine k_get F (pc := 30) (ref := RX3) (C := RX3) (T := TX3) (N := 8) (ci := 3) 0 0 dX3_areAllPlacesInside_30 zin_X3_areAllPlacesInside_X3 rfl rfl (by decide) zm_X3_areAllPlacesInside_f9 rfl rfl ?_
          refine k_iload_n F (pc := 33) 0 rfl dX3_areAllPlacesInside_33 rfl ?_
          refine k_iconst F (pc := 34) ((nI 3)) dX3_areAllPlacesInside_34 (by decide) ?_
          refine k_iaddN F (pc := 35) dX3_areAllPlacesInside_35 ?_
          refine k_iald F (pc := 36) 1 dX3_areAllPlacesInside_36 rfl (by omega) (by decide) ?_
          refine k_callV F (pc := 37) (C := RX3) (T := TX3) (N := 8) (ci := 3) [.int (cd (4 * i + 3))] [] 1 (wX3 E h cd n sc rt on lo hi son slo shi fs lf hf em le gr) [] [0, 1, 2, 3, 4, 5, 6, 7, 8, 9, 10, 11, 12, 13] [] (m_X3_isInstruction l E h cd n sc rt on lo hi son slo shi fs lf hf em le gr (cd (4 * i + 3)) (by omega)) dX3_areAllPlacesInside_37 gX3_areAllPlacesInside_X3_isInstruction rfl (by decide +kernel) rfl ⟨rfl, rfl⟩ (by decide) rfl (Nat.le_of_ble_eq_true rfl) (by decide) rfl rfl rfl rfl (by decide) (by decide) (by decide) ?_
          rintro v_11 w_12 ⟨r_9, rfl, rfl, hc_10⟩
          refine k_perm (wX3 E h cd n sc rt on lo hi son slo shi fs lf hf em le gr) [0, 1, 2, 3, 4, 5, 6, 7, 8, 9, 10, 11, 12, 13] (by decide) rfl ?_
          show kK g (wX3 E h cd n sc rt on lo hi son slo shi fs lf hf em le gr) [(2, .int (nI (4 * i))), (0, .ref (h 0)), (1, .int (nI i))] 0 0 40 [.int (bI r_9)]
          refine k_if_neB F (pc := 40) 45 dX3_areAllPlacesInside_40 (by decide) (fun c_13 => ?_) (fun c_13 => ?_)
          · skip
            have hb_14 := hc_10.mp c_13
            refine k_iinc F (pc := 45) 2 ((nI (i + 1))) [(1, .int (nI (i + 1))), (2, .int (nI (4 * i))), (0, .ref (h 0))] dX3_areAllPlacesInside_45 rfl (nI_1 i) (by decide) rfl ?_
            refine k_goto F (pc := 48) 2 dX3_areAllPlacesInside_48 (by decide) ?_
            refine k_lv [(0, .ref (h 0)), (1, .int (nI (i + 1)))] [2, 0] rfl ?_
            exact ih2 (i + 1) (by omega) (by omega) (by exact lt_s hal (by intro ho; first | assumption | (exfalso; exact absurd ho (by assumption)) | omega))
          · skip
            have hb_15 := k_ff hc_10 c_13
            refine k_iconst F (pc := 43) ((nI 0)) dX3_areAllPlacesInside_43 (by decide) ?_
            refine k_zret F Rr (pc := 44) false dX3_areAllPlacesInside_44 rfl ⟨false, rfl, rfl, ?_⟩
            exact ⟨fun h => absurd h (by decide), fun h => absurd (h i (by omega) (by assumption)) (by assumption)⟩
  refine k_lv [(0, .ref (h 0)), (1, .int (nI 0))] [1, 0] rfl ?_
  exact L2 (n - 0 + 1) 0 (Nat.lt_succ_self _) (by omega) (by intro p hp; omega)
theorem zm_X3_isWhole_f13 : (Cond.fieldLink RX3 13 RX3 "count" "I" : Cond) ∈ wsX3_isWhole := by decide +kernel
theorem zin_X3_isWhole_X3 : ∀ w ∈ u_ws RX3 TX3 8, w ∈ wsX3_isWhole := by decide +kernel
theorem zm_X3_isWhole_f9 : (Cond.fieldLink RX3 9 RX3 "codes" "[I" : Cond) ∈ wsX3_isWhole := by decide +kernel
set_option maxHeartbeats 4000000 in
set_option maxRecDepth 100000 in
theorem m_X3_isWhole (l : Launch) (E : kE) (h : Nat → Nat) (cd : Nat → Int32) (n : Nat) (sc : Bool) (rt : Nat) (on : Nat → Bool) (lo : Nat → Int64) (hi : Nat → Int64) (son : Nat → Bool) (slo : Nat → Int64) (shi : Nat → Int64) (fs : Bool) (lf : Nat → Int64) (hf : Nat → Int64) (em : Bool) (le : Int64) (gr : Int64) (hn : n ≤ 24) (hok : ∀ p, p < n → okP cd p) : kC l yX3_isWhole wsX3_isWhole ({ frames := 2, cells := 0, slots := 0, locals := 43 } : Room) E [.ref (h 0)] (wX3 E h cd n sc rt on lo hi son slo shi fs lf hf em le gr) 0 0 (fun v_ w_ => ∃ (r : Bool), v_ = some (.int (bI r)) ∧ w_ = (wX3 E h cd n sc rt on lo hi son slo shi fs lf hf em le gr) ∧ (r = true ↔ wholeP cd n)) := by
  refine kC.enter cX3_isWhole 2 (some .boolean) [(0, .ref (h 0))] (by decide) rfl (Nat.le_of_ble_eq_true rfl) rfl ?_
  intro g F Rr
  refine k_aload_n F (pc := 0) 0 rfl dX3_isWhole_0 rfl ?_
  refine k_get F (pc := 1) (ref := RX3) (C := RX3) (T := TX3) (N := 8) (ci := 3) 0 1 dX3_isWhole_1 zin_X3_isWhole_X3 rfl rfl (by decide) zm_X3_isWhole_f13 rfl rfl ?_
  refine k_if_ne F (pc := 4) 9 dX3_isWhole_4 (by decide) (nI_toInt (by omega)) (fun c_1 => ?_) (fun c_1 => ?_)
  · skip
    refine k_aload_n F (pc := 9) 0 rfl dX3_isWhole_9 rfl ?_
    refine k_get F (pc := 10) (ref := RX3) (C := RX3) (T := TX3) (N := 8) (ci := 3) 0 0 dX3_isWhole_10 zin_X3_isWhole_X3 rfl rfl (by decide) zm_X3_isWhole_f9 rfl rfl ?_
    refine k_aload_n F (pc := 13) 0 rfl dX3_isWhole_13 rfl ?_
    refine k_get F (pc := 14) (ref := RX3) (C := RX3) (T := TX3) (N := 8) (ci := 3) 0 1 dX3_isWhole_14 zin_X3_isWhole_X3 rfl rfl (by decide) zm_X3_isWhole_f13 rfl rfl ?_
    refine k_iconst F (pc := 17) ((nI 1)) dX3_isWhole_17 (by decide) ?_
    refine k_isubN F (pc := 18) dX3_isWhole_18 (by omega) ?_
    refine k_iconst F (pc := 19) ((nI 4)) dX3_isWhole_19 (by decide) ?_
    refine k_imulC F (pc := 20) dX3_isWhole_20 ?_
    refine k_iconst F (pc := 21) ((nI 0)) dX3_isWhole_21 (by decide) ?_
    refine k_iadd0 F (pc := 22) dX3_isWhole_22 ?_
    refine k_iald F (pc := 23) 1 dX3_isWhole_23 rfl (by omega) (by decide) ?_
    refine k_istore_n F (pc := 24) [(1, .int (cd (4 * (n - 1)))), (0, .ref (h 0))] dX3_isWhole_24 rfl (by decide) rfl ?_
    refine k_iload_n F (pc := 25) 0 rfl dX3_isWhole_25 rfl ?_
    refine k_if_eq F (pc := 26) 35 dX3_isWhole_26 (by decide) rfl (fun c_2 => ?_) (fun c_2 => ?_)
    · skip
      refine k_aload_n F (pc := 35) 1 rfl dX3_isWhole_35 rfl ?_
      refine k_callV F (pc := 36) (C := RX3) (T := TX3) (N := 8) (ci := 3) [] [] 0 (wX3 E h cd n sc rt on lo hi son slo shi fs lf hf em le gr) [] [0, 1, 2, 3, 4, 5, 6, 7, 8, 9, 10, 11, 12, 13] [] (m_X3_areAllPlacesInside l E h cd n sc rt on lo hi son slo shi fs lf hf em le gr (by omega)) dX3_isWhole_36 gX3_isWhole_X3_areAllPlacesInside rfl (by decide +kernel) rfl ⟨rfl, rfl⟩ (by decide) rfl (Nat.le_of_ble_eq_true rfl) (by decide) rfl rfl rfl rfl (by decide) (by decide) (by decide) ?_
      rintro v_4 w_5 ⟨r_3, rfl, rfl, hall⟩
      refine k_perm (wX3 E h cd n sc rt on lo hi son slo shi fs lf hf em le gr) [0, 1, 2, 3, 4, 5, 6, 7, 8, 9, 10, 11, 12, 13] (by decide) rfl ?_
      show kK g (wX3 E h cd n sc rt on lo hi son slo shi fs lf hf em le gr) [(1, .int (cd (4 * (n - 1)))), (0, .ref (h 0))] 0 0 39 [.int (bI r_3)]
      refine k_if_eqB F (pc := 39) 46 dX3_isWhole_39 (by decide) (fun c_6 => ?_) (fun c_6 => ?_)
      · skip
        have hb_7 := k_ff hall c_6
        refine k_iconst F (pc := 46) ((nI 0)) dX3_isWhole_46 (by decide) ?_
        refine k_zret F Rr (pc := 47) false dX3_isWhole_47 rfl ⟨false, rfl, rfl, ?_⟩
        first
        | exact whole_no (by omega)
        | exact whole_fin (by omega) hok hall (by simp only [*]; first | omega | simp)
      · skip
        have hb_8 := hall.mp c_6
        refine k_iconst F (pc := 42) ((nI 1)) dX3_isWhole_42 (by decide) ?_
        refine k_goto F (pc := 43) 47 dX3_isWhole_43 (by decide) ?_
        refine k_zret F Rr (pc := 47) true dX3_isWhole_47 rfl ⟨true, rfl, rfl, ?_⟩
        first
        | exact whole_no (by omega)
        | exact whole_fin (by omega) hok hall (by simp only [*]; first | omega | simp)
    · skip
      refine k_iload_n F (pc := 29) 0 rfl dX3_isWhole_29 rfl ?_
      refine k_bipush F (pc := 30) ((nI 10)) dX3_isWhole_30 (by decide) ?_
      refine k_icmp_ne F (pc := 32) 46 dX3_isWhole_32 (by decide) rfl (show (nI 10 : Int32).toInt = 10 by decide) (fun c_9 => ?_) (fun c_9 => ?_)
      · skip
        refine k_iconst F (pc := 46) ((nI 0)) dX3_isWhole_46 (by decide) ?_
        refine k_zret F Rr (pc := 47) false dX3_isWhole_47 rfl ⟨false, rfl, rfl, ?_⟩
        first
        | exact whole_no (by omega)
        | exact whole_fin (by omega) hok hall (by simp only [*]; first | omega | simp)
      · skip
        refine k_aload_n F (pc := 35) 1 rfl dX3_isWhole_35 rfl ?_
        refine k_callV F (pc := 36) (C := RX3) (T := TX3) (N := 8) (ci := 3) [] [] 0 (wX3 E h cd n sc rt on lo hi son slo shi fs lf hf em le gr) [] [0, 1, 2, 3, 4, 5, 6, 7, 8, 9, 10, 11, 12, 13] [] (m_X3_areAllPlacesInside l E h cd n sc rt on lo hi son slo shi fs lf hf em le gr (by omega)) dX3_isWhole_36 gX3_isWhole_X3_areAllPlacesInside rfl (by decide +kernel) rfl ⟨rfl, rfl⟩ (by decide) rfl (Nat.le_of_ble_eq_true rfl) (by decide) rfl rfl rfl rfl (by decide) (by decide) (by decide) ?_
        rintro v_11 w_12 ⟨r_10, rfl, rfl, hall⟩
        refine k_perm (wX3 E h cd n sc rt on lo hi son slo shi fs lf hf em le gr) [0, 1, 2, 3, 4, 5, 6, 7, 8, 9, 10, 11, 12, 13] (by decide) rfl ?_
        show kK g (wX3 E h cd n sc rt on lo hi son slo shi fs lf hf em le gr) [(1, .int (cd (4 * (n - 1)))), (0, .ref (h 0))] 0 0 39 [.int (bI r_10)]
        refine k_if_eqB F (pc := 39) 46 dX3_isWhole_39 (by decide) (fun c_13 => ?_) (fun c_13 => ?_)
        · skip
          have hb_14 := k_ff hall c_13
          refine k_iconst F (pc := 46) ((nI 0)) dX3_isWhole_46 (by decide) ?_
          refine k_zret F Rr (pc := 47) false dX3_isWhole_47 rfl ⟨false, rfl, rfl, ?_⟩
          first
          | exact whole_no (by omega)
          | exact whole_fin (by omega) hok hall (by simp only [*]; first | omega | simp)
        · skip
          have hb_15 := hall.mp c_13
          refine k_iconst F (pc := 42) ((nI 1)) dX3_isWhole_42 (by decide) ?_
          refine k_goto F (pc := 43) 47 dX3_isWhole_43 (by decide) ?_
          refine k_zret F Rr (pc := 47) true dX3_isWhole_47 rfl ⟨true, rfl, rfl, ?_⟩
          first
          | exact whole_no (by omega)
          | exact whole_fin (by omega) hok hall (by simp only [*]; first | omega | simp)
  · skip
    refine k_iconst F (pc := 7) ((nI 0)) dX3_isWhole_7 (by decide) ?_
    refine k_zret F Rr (pc := 8) false dX3_isWhole_8 rfl ⟨false, rfl, rfl, ?_⟩
    exact ⟨fun h => absurd h (by decide), fun h => by exfalso; have := h.1; omega⟩
