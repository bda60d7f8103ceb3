theorem zm_X4_flow_f7 : (Cond.fieldLink RX4 7 RX4 "code" "[I" : Cond) ∈ wsX4_flow := by decide +kernel
theorem zin_X4_flow_X4 : ∀ w ∈ u_ws RX4 TX4 15, w ∈ wsX4_flow := by decide +kernel
theorem zm_X4_flow_f21 : (Cond.fieldLink RX4 21 RX4 "hi" "[J" : Cond) ∈ wsX4_flow := by decide +kernel
theorem zm_X4_flow_f33 : (Cond.fieldLink RX4 33 RX4 "flows" "[Z" : Cond) ∈ wsX4_flow := by decide +kernel
theorem zm_X4_flow_c66 : (Cond.constantLong RX4 66 (-2147483648) : Cond) ∈ wsX4_flow := by decide +kernel
theorem zm_X4_flow_c68 : (Cond.constantLong RX4 68 (2147483647) : Cond) ∈ wsX4_flow := by decide +kernel
theorem zm_X4_flow_f17 : (Cond.fieldLink RX4 17 RX4 "lo" "[J" : Cond) ∈ wsX4_flow := by decide +kernel
theorem zm_X4_flow_c96 : (Cond.constantLong RX4 96 (7) : Cond) ∈ wsX4_flow := by decide +kernel
theorem zm_X4_flow_f36 : (Cond.fieldLink RX4 36 RX4 "tlo" "[J" : Cond) ∈ wsX4_flow := by decide +kernel
theorem zm_X4_flow_f39 : (Cond.fieldLink RX4 39 RX4 "thi" "[J" : Cond) ∈ wsX4_flow := by decide +kernel
set_option maxHeartbeats 4000000 in
set_option maxRecDepth 100000 in
theorem m_X4_flow (l : Launch) (E : kE) (h : Nat → Nat) (cd : Nat → Int32) (n : Nat) (rt : Nat) (sc : Bool) (on : Nat → Bool) (lo : Nat → Int64) (hi : Nat → Int64) (non : Nat → Bool) (nlo : Nat → Int64) (nhi : Nat → Int64) (fl : Nat → Bool) (tlo : Nat → Int64) (thi : Nat → Int64) (le : Int64) (gr : Int64) (p : Nat) (X : IV × IV) (hp : p < 24) (hok : okP cd p) (hX : okX X) (hR : ∀ v, v < 4 → lo (4 * p + v) = X.1 v ∧ hi (4 * p + v) = X.2 v) : kC l yX4_flow wsX4_flow ({ frames := 3, cells := 0, slots := 0, locals := 89 } : Room) E [.ref (h 0), .int (nI p)] (wX4 E h cd n rt sc on lo hi non nlo nhi fl tlo thi le gr) 0 0 (fun v_ w_ => ∃ (fl1 : Nat → Bool) (tlo1 : Nat → Int64) (thi1 : Nat → Int64) (le1 : Int64) (gr1 : Int64), v_ = none ∧ w_ = (wX4 E h cd n rt sc on lo hi non nlo nhi fl1 tlo1 thi1 le1 gr1) ∧ (FRep (fl1 0) tlo1 thi1 (fN cd p X) ∧ FRep (fl1 1) (fun v => tlo1 (4 + v)) (fun v => thi1 (4 + v)) (fP cd p X))) := by
  refine kC.enter cX4_flow 6 none [(0, .ref (h 0)), (1, .int (nI p))] (by decide) rfl (Nat.le_of_ble_eq_true rfl) rfl ?_
  intro g F Rr
  have ho0 := hok.1
  have ho1 := hok.2.1
  refine k_aload_n F (pc := 0) 0 rfl dX4_flow_0 rfl ?_
  refine k_get F (pc := 1) (ref := RX4) (C := RX4) (T := TX4) (N := 15) (ci := 4) 0 0 dX4_flow_1 zin_X4_flow_X4 rfl rfl (by decide) zm_X4_flow_f7 rfl rfl ?_
  refine k_iconst F (pc := 4) ((nI 4)) dX4_flow_4 (by decide) ?_
  refine k_iload_n F (pc := 5) 1 rfl dX4_flow_5 rfl ?_
  refine k_imulN F (pc := 6) dX4_flow_6 ?_
  refine k_iald F (pc := 7) 1 dX4_flow_7 rfl (by omega) (by decide) ?_
  refine k_istore_n F (pc := 8) [(2, .int (cd (4 * p))), (0, .ref (h 0)), (1, .int (nI p))] dX4_flow_8 rfl (by decide) rfl ?_
  refine k_aload_n F (pc := 9) 1 rfl dX4_flow_9 rfl ?_
  refine k_get F (pc := 10) (ref := RX4) (C := RX4) (T := TX4) (N := 15) (ci := 4) 0 0 dX4_flow_10 zin_X4_flow_X4 rfl rfl (by decide) zm_X4_flow_f7 rfl rfl ?_
  refine k_iconst F (pc := 13) ((nI 4)) dX4_flow_13 (by decide) ?_
  refine k_iload_n F (pc := 14) 2 rfl dX4_flow_14 rfl ?_
  refine k_imulN F (pc := 15) dX4_flow_15 ?_
  refine k_iconst F (pc := 16) ((nI 1)) dX4_flow_16 (by decide) ?_
  refine k_iaddN F (pc := 17) dX4_flow_17 ?_
  refine k_iald F (pc := 18) 1 dX4_flow_18 rfl (by omega) (by decide) ?_
  refine k_istore_n F (pc := 19) [(3, .int (cd (4 * p + 1))), (2, .int (cd (4 * p))), (0, .ref (h 0)), (1, .int (nI p))] dX4_flow_19 rfl (by decide) rfl ?_
  refine k_aload_n F (pc := 20) 2 rfl dX4_flow_20 rfl ?_
  refine k_get F (pc := 21) (ref := RX4) (C := RX4) (T := TX4) (N := 15) (ci := 4) 0 0 dX4_flow_21 zin_X4_flow_X4 rfl rfl (by decide) zm_X4_flow_f7 rfl rfl ?_
  refine k_iconst F (pc := 24) ((nI 4)) dX4_flow_24 (by decide) ?_
  refine k_iload_n F (pc := 25) 3 rfl dX4_flow_25 rfl ?_
  refine k_imulN F (pc := 26) dX4_flow_26 ?_
  refine k_iconst F (pc := 27) ((nI 2)) dX4_flow_27 (by decide) ?_
  refine k_iaddN F (pc := 28) dX4_flow_28 ?_
  refine k_iald F (pc := 29) 1 dX4_flow_29 rfl (by omega) (by decide) ?_
  refine k_istore F (pc := 30) [(4, .int (cd (4 * p + 2))), (3, .int (cd (4 * p + 1))), (2, .int (cd (4 * p))), (0, .ref (h 0)), (1, .int (nI p))] dX4_flow_30 (by decide) rfl ?_
  have J76 : ∀ (fl2 : Nat → Bool), (fl2 0 = true ↔ ¬ (cd (4 * p)).toInt = 0 ∧ ¬ (cd (4 * p)).toInt = 10) → (fl2 1 = true ↔ (cd (4 * p)).toInt = 9 ∨ (cd (4 * p)).toInt = 10) → kK g (wX4 E h cd n rt sc on lo hi non nlo nhi fl2 tlo thi le gr) [(0, .ref (h 0)), (1, .int (nI p)), (2, .int (cd (4 * p))), (3, .int (cd (4 * p + 1))), (4, .int (cd (4 * p + 2)))] 0 0 76 [] := by
    intro fl2 hfl0 hfl1
    refine k_iconst F (pc := 76) ((nI 0)) dX4_flow_76 (by decide) ?_
    refine k_istore F (pc := 77) [(5, .int (nI 0)), (0, .ref (h 0)), (1, .int (nI p)), (2, .int (cd (4 * p))), (3, .int (cd (4 * p + 1))), (4, .int (cd (4 * p + 2)))] dX4_flow_77 (by decide) rfl ?_
    have L79 : ∀ (d_ : Nat) (i : Nat) (tlo2 : Nat → Int64) (thi2 : Nat → Int64), 4 - i < d_ → (i ≤ 4) → (∀ v, v < i → tlo2 v = lo (4 * p + v) ∧ thi2 v = hi (4 * p + v) ∧ tlo2 (4 + v) = lo (4 * p + v) ∧ thi2 (4 + v) = hi (4 * p + v)) → kK g (wX4 E h cd n rt sc on lo hi non nlo nhi fl2 tlo2 thi2 le gr) [(0, .ref (h 0)), (1, .int (nI p)), (2, .int (cd (4 * p))), (3, .int (cd (4 * p + 1))), (4, .int (cd (4 * p + 2))), (5, .int (nI i))] 0 0 79 [] := by
      intro d_
      induction d_ with
      | zero => intro i tlo2 thi2 hm; exact absurd hm (Nat.not_lt_zero _)
      | succ d_ ih79 =>
        intro i tlo2 thi2 hm79 hi4 hcp
        refine k_iload F (pc := 79) 5 rfl dX4_flow_79 ?_
        refine k_iconst F (pc := 81) ((nI 4)) dX4_flow_81 (by decide) ?_
        refine k_icmp_ge F (pc := 82) 159 dX4_flow_82 (by decide) (nI_toInt (by omega)) (show (nI 4 : Int32).toInt = 4 by decide) (fun c_1 => ?_) (fun c_1 => ?_)
        · skip
          have hF0 : FRep true tlo2 thi2 (some X) := cp_rep (fun v hv => ⟨(hcp v (by omega)).1, (hcp v (by omega)).2.1⟩) hR
          have hF1 : FRep true (fun v => tlo2 (4 + v)) (fun v => thi2 (4 + v)) (some X) := cp_rep (fun v hv => ⟨(hcp v (by omega)).2.2.1, (hcp v (by omega)).2.2.2⟩) hR
          refine k_iload_n F (pc := 159) 2 rfl dX4_flow_159 rfl ?_
          refine k_iconst F (pc := 160) ((nI 1)) dX4_flow_160 (by decide) ?_
          refine k_icmp_ne F (pc := 161) 175 dX4_flow_161 (by decide) rfl (show (nI 1 : Int32).toInt = 1 by decide) (fun c_2 => ?_) (fun c_2 => ?_)
          · skip
            refine k_iload_n F (pc := 175) 2 rfl dX4_flow_175 rfl ?_
            refine k_iconst F (pc := 176) ((nI 2)) dX4_flow_176 (by decide) ?_
            refine k_icmp_ne F (pc := 177) 207 dX4_flow_177 (by decide) rfl (show (nI 2 : Int32).toInt = 2 by decide) (fun c_3 => ?_) (fun c_3 => ?_)
            · skip
              refine k_iload_n F (pc := 207) 2 rfl dX4_flow_207 rfl ?_
              refine k_iconst F (pc := 208) ((nI 3)) dX4_flow_208 (by decide) ?_
              refine k_icmp_lt F (pc := 209) 237 dX4_flow_209 (by decide) rfl (show (nI 3 : Int32).toInt = 3 by decide) (fun c_4 => ?_) (fun c_4 => ?_)
              · skip
                refine k_iload_n F (pc := 237) 2 rfl dX4_flow_237 rfl ?_
                refine k_bipush F (pc := 238) ((nI 7)) dX4_flow_238 (by decide) ?_
                refine k_icmp_eq F (pc := 240) 249 dX4_flow_240 (by decide) rfl (show (nI 7 : Int32).toInt = 7 by decide) (fun c_5 => ?_) (fun c_5 => ?_)
                · skip
                  exfalso; omega
                · skip
                  refine k_iload_n F (pc := 243) 2 rfl dX4_flow_243 rfl ?_
                  refine k_bipush F (pc := 244) ((nI 8)) dX4_flow_244 (by decide) ?_
                  refine k_icmp_ne F (pc := 246) 290 dX4_flow_246 (by decide) rfl (show (nI 8 : Int32).toInt = 8 by decide) (fun c_6 => ?_) (fun c_6 => ?_)
                  · skip
                    refine k_iload_n F (pc := 290) 2 rfl dX4_flow_290 rfl ?_
                    refine k_bipush F (pc := 291) ((nI 7)) dX4_flow_291 (by decide) ?_
                    refine k_icmp_eq F (pc := 293) 302 dX4_flow_293 (by decide) rfl (show (nI 7 : Int32).toInt = 7 by decide) (fun c_7 => ?_) (fun c_7 => ?_)
                    · skip
                      exfalso; omega
                    · skip
                      refine k_iload_n F (pc := 296) 2 rfl dX4_flow_296 rfl ?_
                      refine k_bipush F (pc := 297) ((nI 11)) dX4_flow_297 (by decide) ?_
                      refine k_icmp_ne F (pc := 299) 313 dX4_flow_299 (by decide) rfl (show (nI 11 : Int32).toInt = 11 by decide) (fun c_8 => ?_) (fun c_8 => ?_)
                      · skip
                        refine k_iload_n F (pc := 313) 2 rfl dX4_flow_313 rfl ?_
                        refine k_bipush F (pc := 314) ((nI 9)) dX4_flow_314 (by decide) ?_
                        refine k_icmp_ne F (pc := 316) 327 dX4_flow_316 (by decide) rfl (show (nI 9 : Int32).toInt = 9 by decide) (fun c_9 => ?_) (fun c_9 => ?_)
                        · skip
                          refine k_vret F Rr (pc := 327) dX4_flow_327 ⟨fl2, tlo2, thi2, le, gr, rfl, rfl, ?_⟩
                          first
                          | exact hfin
                          | exact ⟨hfin, by rw [fP_no (by omega) (by omega)]; exact frep_b (v := false) (by first | exact bff hfl1 (by omega) | exact hs.2.2.trans (bff hfl1 (by omega)) | (simp only [*, upB]; exact bff hfl1 (by omega))) frep_none⟩
                          | exact ⟨by rw [fN_no (by omega)]; exact frep_b (v := false) (bff hfl0 (by omega)) frep_none, by rw [fP_no (by omega) (by omega)]; exact frep_b (v := false) (bff hfl1 (by omega)) frep_none⟩
                          | exact ⟨by rw [fN_no (by omega)]; exact frep_b (v := false) (bff hfl0 (by omega)) frep_none, by rw [fP_10 (by omega)]; exact frep_b (v := true) (hfl1.mpr (by omega)) hF1⟩
                          | exact ⟨frep_b (v := true) (hfl0.mpr (by omega)) (flow_8s hF0 (by omega) hb4 hR (by assumption) (by assumption)), by rw [fP_no (by omega) (by omega)]; exact frep_b (v := false) (bff hfl1 (by omega)) frep_none⟩
                          | exact ⟨frep_b (v := false) (by simp [*, upB]) (flow_7n (by omega) hb4 hR (Or.inl (by assumption))), by rw [fP_no (by omega) (by omega)]; exact frep_b (v := false) (by simp only [*, upB]; exact bff hfl1 (by omega)) frep_none⟩
                          | exact ⟨frep_b (v := false) (by simp [*, upB]) (flow_7n (by omega) hb4 hR (Or.inr (by assumption))), by rw [fP_no (by omega) (by omega)]; exact frep_b (v := false) (by simp only [*, upB]; exact bff hfl1 (by omega)) frep_none⟩
                        · skip
                          exfalso; omega
                      · skip
                        exfalso; omega
                  · skip
                    exfalso; omega
              · skip
                refine k_iload_n F (pc := 212) 2 rfl dX4_flow_212 rfl ?_
                refine k_bipush F (pc := 213) ((nI 6)) dX4_flow_213 (by decide) ?_
                refine k_icmp_gt F (pc := 215) 237 dX4_flow_215 (by decide) rfl (show (nI 6 : Int32).toInt = 6 by decide) (fun c_10 => ?_) (fun c_10 => ?_)
                · skip
                  refine k_iload_n F (pc := 237) 2 rfl dX4_flow_237 rfl ?_
                  refine k_bipush F (pc := 238) ((nI 7)) dX4_flow_238 (by decide) ?_
                  refine k_icmp_eq F (pc := 240) 249 dX4_flow_240 (by decide) rfl (show (nI 7 : Int32).toInt = 7 by decide) (fun c_11 => ?_) (fun c_11 => ?_)
                  · skip
                    have hop := c_11
                    obtain ⟨ea, ha4⟩ := okP_a hok (by omega)
                    obtain ⟨eb, hb4⟩ := okP_b hok (by omega)
                    refine k_aload_n F (pc := 249) 0 rfl dX4_flow_249 rfl ?_
                    refine k_get F (pc := 250) (ref := RX4) (C := RX4) (T := TX4) (N := 15) (ci := 4) 0 6 dX4_flow_250 zin_X4_flow_X4 rfl rfl (by decide) zm_X4_flow_f21 rfl rfl ?_
                    refine k_iconst F (pc := 253) ((nI 4)) dX4_flow_253 (by decide) ?_
                    refine k_iload_n F (pc := 254) 1 rfl dX4_flow_254 rfl ?_
                    refine k_imulN F (pc := 255) dX4_flow_255 ?_
                    refine k_iload F (pc := 256) 4 rfl dX4_flow_256 ?_
                    refine k_topi (nI ((cd (4 * p + 2)).toNatClampNeg)) eb ?_
                    refine k_iaddN F (pc := 258) dX4_flow_258 ?_
                    refine k_lald F (pc := 259) 4 dX4_flow_259 rfl (by omega) (by decide) ?_
                    refine k_lconst F (pc := 260) 0 dX4_flow_260 (by decide) ?_
                    refine k_lcmp_lt F (pc := 261) 283 dX4_flow_261 dX4_flow_262 (by decide) (fun c_12 => ?_) (fun c_12 => ?_)
                    · skip
                      refine k_aload_n F (pc := 283) 0 rfl dX4_flow_283 rfl ?_
                      refine k_get F (pc := 284) (ref := RX4) (C := RX4) (T := TX4) (N := 15) (ci := 4) 0 10 dX4_flow_284 zin_X4_flow_X4 rfl rfl (by decide) zm_X4_flow_f33 rfl rfl ?_
                      refine k_iconst F (pc := 287) ((nI 0)) dX4_flow_287 (by decide) ?_
                      refine k_iconst F (pc := 288) ((nI 0)) dX4_flow_288 (by decide) ?_
                      refine k_zast F (pc := 289) false 8 (fun fl_13 => (wX4 E h cd n rt sc on lo hi non nlo nhi fl_13 tlo2 thi2 le gr)) dX4_flow_289 rfl rfl (by omega) (by decide) (fun _ => rfl) (fun fl_13 efl_13 => ?_)
                      refine k_iload_n F (pc := 290) 2 rfl dX4_flow_290 rfl ?_
                      refine k_bipush F (pc := 291) ((nI 7)) dX4_flow_291 (by decide) ?_
                      refine k_icmp_eq F (pc := 293) 302 dX4_flow_293 (by decide) rfl (show (nI 7 : Int32).toInt = 7 by decide) (fun c_14 => ?_) (fun c_14 => ?_)
                      · skip
                        refine k_aload_n F (pc := 302) 0 rfl dX4_flow_302 rfl ?_
                        refine k_iload_n F (pc := 303) 3 rfl dX4_flow_303 rfl ?_
                        refine k_topi (nI ((cd (4 * p + 1)).toNatClampNeg)) ea ?_
                        refine k_ldc2 F (pc := 304) (-2147483648) dX4_flow_304 zm_X4_flow_c66 ?_
                        refine k_ldc2 F (pc := 307) (2147483647) dX4_flow_307 zm_X4_flow_c68 ?_
                        refine k_callV F (pc := 310) (C := RX4) (T := TX4) (N := 15) (ci := 4) [.int (nI ((cd (4 * p + 1)).toNatClampNeg)), .long (-2147483648), .long 2147483647] [] 3 (wX4 E h cd n rt sc on lo hi non nlo nhi fl_13 tlo2 thi2 le gr) [] [0, 1, 2, 3, 4, 5, 6, 7, 8, 9, 10] [] (m_X4_set l E h cd n rt sc on lo hi non nlo nhi fl_13 tlo2 thi2 le gr ((cd (4 * p + 1)).toNatClampNeg) (-2147483648) 2147483647 (by omega)) dX4_flow_310 gX4_flow_X4_set rfl (by decide +kernel) rfl ⟨rfl, rfl⟩ (by decide) rfl (Nat.le_of_ble_eq_true rfl) (by decide) rfl rfl rfl rfl (by decide) (by decide) (by decide) ?_
                        rintro v_17 w_18 ⟨tlo1_15, thi1_16, rfl, rfl, hs⟩
                        refine k_perm (wX4 E h cd n rt sc on lo hi non nlo nhi fl_13 tlo1_15 thi1_16 le gr) [0, 1, 2, 3, 4, 5, 6, 7, 8, 9, 10] (by decide) rfl ?_
                        show kK g (wX4 E h cd n rt sc on lo hi non nlo nhi fl_13 tlo1_15 thi1_16 le gr) [(0, .ref (h 0)), (1, .int (nI p)), (2, .int (cd (4 * p))), (3, .int (cd (4 * p + 1))), (4, .int (cd (4 * p + 2))), (5, .int (nI i))] 0 0 313 []
                        have hfin : FRep (fl_13 0) tlo1_15 thi1_16 (fN cd p X) := by
                          first
                          | exact frep_b (v := true) (hfl0.mpr (by omega)) (flow_11 hF0 (by omega) hs)
                          | exact frep_b (v := true) (hfl0.mpr (by omega)) (flow_7s hF0 (by omega) hb4 hR (by assumption) (by assumption) hs)
                          | exact frep_b (v := false) (by simp [*, upB]) (flow_7n (by omega) hb4 hR (Or.inl (by assumption)))
                          | exact frep_b (v := false) (by simp [*, upB]) (flow_7n (by omega) hb4 hR (Or.inr (by assumption)))
                        refine k_iload_n F (pc := 313) 2 rfl dX4_flow_313 rfl ?_
                        refine k_bipush F (pc := 314) ((nI 9)) dX4_flow_314 (by decide) ?_
                        refine k_icmp_ne F (pc := 316) 327 dX4_flow_316 (by decide) rfl (show (nI 9 : Int32).toInt = 9 by decide) (fun c_19 => ?_) (fun c_19 => ?_)
                        · skip
                          refine k_vret F Rr (pc := 327) dX4_flow_327 ⟨fl_13, tlo1_15, thi1_16, le, gr, rfl, rfl, ?_⟩
                          first
                          | exact hfin
                          | exact ⟨hfin, by rw [fP_no (by omega) (by omega)]; exact frep_b (v := false) (by first | exact bff hfl1 (by omega) | exact hs.2.2.trans (bff hfl1 (by omega)) | (simp only [*, upB]; exact bff hfl1 (by omega))) frep_none⟩
                          | exact ⟨by rw [fN_no (by omega)]; exact frep_b (v := false) (bff hfl0 (by omega)) frep_none, by rw [fP_no (by omega) (by omega)]; exact frep_b (v := false) (bff hfl1 (by omega)) frep_none⟩
                          | exact ⟨by rw [fN_no (by omega)]; exact frep_b (v := false) (bff hfl0 (by omega)) frep_none, by rw [fP_10 (by omega)]; exact frep_b (v := true) (hfl1.mpr (by omega)) hF1⟩
                          | exact ⟨frep_b (v := true) (hfl0.mpr (by omega)) (flow_8s hF0 (by omega) hb4 hR (by assumption) (by assumption)), by rw [fP_no (by omega) (by omega)]; exact frep_b (v := false) (bff hfl1 (by omega)) frep_none⟩
                          | exact ⟨frep_b (v := false) (by simp [*, upB]) (flow_7n (by omega) hb4 hR (Or.inl (by assumption))), by rw [fP_no (by omega) (by omega)]; exact frep_b (v := false) (by simp only [*, upB]; exact bff hfl1 (by omega)) frep_none⟩
                          | exact ⟨frep_b (v := false) (by simp [*, upB]) (flow_7n (by omega) hb4 hR (Or.inr (by assumption))), by rw [fP_no (by omega) (by omega)]; exact frep_b (v := false) (by simp only [*, upB]; exact bff hfl1 (by omega)) frep_none⟩
                        · skip
                          exfalso; omega
                      · skip
                        exfalso; omega
                    · skip
                      refine k_aload_n F (pc := 265) 0 rfl dX4_flow_265 rfl ?_
                      refine k_get F (pc := 266) (ref := RX4) (C := RX4) (T := TX4) (N := 15) (ci := 4) 0 5 dX4_flow_266 zin_X4_flow_X4 rfl rfl (by decide) zm_X4_flow_f17 rfl rfl ?_
                      refine k_iconst F (pc := 269) ((nI 4)) dX4_flow_269 (by decide) ?_
                      refine k_iload_n F (pc := 270) 1 rfl dX4_flow_270 rfl ?_
                      refine k_imulN F (pc := 271) dX4_flow_271 ?_
                      refine k_iload F (pc := 272) 4 rfl dX4_flow_272 ?_
                      refine k_topi (nI ((cd (4 * p + 2)).toNatClampNeg)) eb ?_
                      refine k_iaddN F (pc := 274) dX4_flow_274 ?_
                      refine k_lald F (pc := 275) 3 dX4_flow_275 rfl (by omega) (by decide) ?_
                      refine k_ldc2 F (pc := 276) (7) dX4_flow_276 zm_X4_flow_c96 ?_
                      refine k_lcmp_le F (pc := 279) 290 dX4_flow_279 dX4_flow_280 (by decide) (fun c_20 => ?_) (fun c_20 => ?_)
                      · skip
                        refine k_iload_n F (pc := 290) 2 rfl dX4_flow_290 rfl ?_
                        refine k_bipush F (pc := 291) ((nI 7)) dX4_flow_291 (by decide) ?_
                        refine k_icmp_eq F (pc := 293) 302 dX4_flow_293 (by decide) rfl (show (nI 7 : Int32).toInt = 7 by decide) (fun c_21 => ?_) (fun c_21 => ?_)
                        · skip
                          refine k_aload_n F (pc := 302) 0 rfl dX4_flow_302 rfl ?_
                          refine k_iload_n F (pc := 303) 3 rfl dX4_flow_303 rfl ?_
                          refine k_topi (nI ((cd (4 * p + 1)).toNatClampNeg)) ea ?_
                          refine k_ldc2 F (pc := 304) (-2147483648) dX4_flow_304 zm_X4_flow_c66 ?_
                          refine k_ldc2 F (pc := 307) (2147483647) dX4_flow_307 zm_X4_flow_c68 ?_
                          refine k_callV F (pc := 310) (C := RX4) (T := TX4) (N := 15) (ci := 4) [.int (nI ((cd (4 * p + 1)).toNatClampNeg)), .long (-2147483648), .long 2147483647] [] 3 (wX4 E h cd n rt sc on lo hi non nlo nhi fl2 tlo2 thi2 le gr) [] [0, 1, 2, 3, 4, 5, 6, 7, 8, 9, 10] [] (m_X4_set l E h cd n rt sc on lo hi non nlo nhi fl2 tlo2 thi2 le gr ((cd (4 * p + 1)).toNatClampNeg) (-2147483648) 2147483647 (by omega)) dX4_flow_310 gX4_flow_X4_set rfl (by decide +kernel) rfl ⟨rfl, rfl⟩ (by decide) rfl (Nat.le_of_ble_eq_true rfl) (by decide) rfl rfl rfl rfl (by decide) (by decide) (by decide) ?_
                          rintro v_24 w_25 ⟨tlo1_22, thi1_23, rfl, rfl, hs⟩
                          refine k_perm (wX4 E h cd n rt sc on lo hi non nlo nhi fl2 tlo1_22 thi1_23 le gr) [0, 1, 2, 3, 4, 5, 6, 7, 8, 9, 10] (by decide) rfl ?_
                          show kK g (wX4 E h cd n rt sc on lo hi non nlo nhi fl2 tlo1_22 thi1_23 le gr) [(0, .ref (h 0)), (1, .int (nI p)), (2, .int (cd (4 * p))), (3, .int (cd (4 * p + 1))), (4, .int (cd (4 * p + 2))), (5, .int (nI i))] 0 0 313 []
                          have hfin : FRep (fl2 0) tlo1_22 thi1_23 (fN cd p X) := by
                            first
                            | exact frep_b (v := true) (hfl0.mpr (by omega)) (flow_11 hF0 (by omega) hs)
                            | exact frep_b (v := true) (hfl0.mpr (by omega)) (flow_7s hF0 (by omega) hb4 hR (by assumption) (by assumption) hs)
                            | exact frep_b (v := false) (by simp [*, upB]) (flow_7n (by omega) hb4 hR (Or.inl (by assumption)))
                            | exact frep_b (v := false) (by simp [*, upB]) (flow_7n (by omega) hb4 hR (Or.inr (by assumption)))
                          refine k_iload_n F (pc := 313) 2 rfl dX4_flow_313 rfl ?_
                          refine k_bipush F (pc := 314) ((nI 9)) dX4_flow_314 (by decide) ?_
                          refine k_icmp_ne F (pc := 316) 327 dX4_flow_316 (by decide) rfl (show (nI 9 : Int32).toInt = 9 by decide) (fun c_26 => ?_) (fun c_26 => ?_)
                          · skip
                            refine k_vret F Rr (pc := 327) dX4_flow_327 ⟨fl2, tlo1_22, thi1_23, le, gr, rfl, rfl, ?_⟩
                            first
                            | exact hfin
                            | exact ⟨hfin, by rw [fP_no (by omega) (by omega)]; exact frep_b (v := false) (by first | exact bff hfl1 (by omega) | exact hs.2.2.trans (bff hfl1 (by omega)) | (simp only [*, upB]; exact bff hfl1 (by omega))) frep_none⟩
                            | exact ⟨by rw [fN_no (by omega)]; exact frep_b (v := false) (bff hfl0 (by omega)) frep_none, by rw [fP_no (by omega) (by omega)]; exact frep_b (v := false) (bff hfl1 (by omega)) frep_none⟩
                            | exact ⟨by rw [fN_no (by omega)]; exact frep_b (v := false) (bff hfl0 (by omega)) frep_none, by rw [fP_10 (by omega)]; exact frep_b (v := true) (hfl1.mpr (by omega)) hF1⟩
                            | exact ⟨frep_b (v := true) (hfl0.mpr (by omega)) (flow_8s hF0 (by omega) hb4 hR (by assumption) (by assumption)), by rw [fP_no (by omega) (by omega)]; exact frep_b (v := false) (bff hfl1 (by omega)) frep_none⟩
                            | exact ⟨frep_b (v := false) (by simp [*, upB]) (flow_7n (by omega) hb4 hR (Or.inl (by assumption))), by rw [fP_no (by omega) (by omega)]; exact frep_b (v := false) (by simp only [*, upB]; exact bff hfl1 (by omega)) frep_none⟩
                            | exact ⟨frep_b (v := false) (by simp [*, upB]) (flow_7n (by omega) hb4 hR (Or.inr (by assumption))), by rw [fP_no (by omega) (by omega)]; exact frep_b (v := false) (by simp only [*, upB]; exact bff hfl1 (by omega)) frep_none⟩
                          · skip
                            exfalso; omega
                        · skip
                          exfalso; omega
                      · skip
                        refine k_aload_n F (pc := 283) 0 rfl dX4_flow_283 rfl ?_
                        refine k_get F (pc := 284) (ref := RX4) (C := RX4) (T := TX4) (N := 15) (ci := 4) 0 10 dX4_flow_284 zin_X4_flow_X4 rfl rfl (by decide) zm_X4_flow_f33 rfl rfl ?_
                        refine k_iconst F (pc := 287) ((nI 0)) dX4_flow_287 (by decide) ?_
                        refine k_iconst F (pc := 288) ((nI 0)) dX4_flow_288 (by decide) ?_
                        refine k_zast F (pc := 289) false 8 (fun fl_27 => (wX4 E h cd n rt sc on lo hi non nlo nhi fl_27 tlo2 thi2 le gr)) dX4_flow_289 rfl rfl (by omega) (by decide) (fun _ => rfl) (fun fl_27 efl_27 => ?_)
                        refine k_iload_n F (pc := 290) 2 rfl dX4_flow_290 rfl ?_
                        refine k_bipush F (pc := 291) ((nI 7)) dX4_flow_291 (by decide) ?_
                        refine k_icmp_eq F (pc := 293) 302 dX4_flow_293 (by decide) rfl (show (nI 7 : Int32).toInt = 7 by decide) (fun c_28 => ?_) (fun c_28 => ?_)
                        · skip
                          refine k_aload_n F (pc := 302) 0 rfl dX4_flow_302 rfl ?_
                          refine k_iload_n F (pc := 303) 3 rfl dX4_flow_303 rfl ?_
                          refine k_topi (nI ((cd (4 * p + 1)).toNatClampNeg)) ea ?_
                          refine k_ldc2 F (pc := 304) (-2147483648) dX4_flow_304 zm_X4_flow_c66 ?_
                          refine k_ldc2 F (pc := 307) (2147483647) dX4_flow_307 zm_X4_flow_c68 ?_
                          refine k_callV F (pc := 310) (C := RX4) (T := TX4) (N := 15) (ci := 4) [.int (nI ((cd (4 * p + 1)).toNatClampNeg)), .long (-2147483648), .long 2147483647] [] 3 (wX4 E h cd n rt sc on lo hi non nlo nhi fl_27 tlo2 thi2 le gr) [] [0, 1, 2, 3, 4, 5, 6, 7, 8, 9, 10] [] (m_X4_set l E h cd n rt sc on lo hi non nlo nhi fl_27 tlo2 thi2 le gr ((cd (4 * p + 1)).toNatClampNeg) (-2147483648) 2147483647 (by omega)) dX4_flow_310 gX4_flow_X4_set rfl (by decide +kernel) rfl ⟨rfl, rfl⟩ (by decide) rfl (Nat.le_of_ble_eq_true rfl) (by decide) rfl rfl rfl rfl (by decide) (by decide) (by decide) ?_
                          rintro v_31 w_32 ⟨tlo1_29, thi1_30, rfl, rfl, hs⟩
                          refine k_perm (wX4 E h cd n rt sc on lo hi non nlo nhi fl_27 tlo1_29 thi1_30 le gr) [0, 1, 2, 3, 4, 5, 6, 7, 8, 9, 10] (by decide) rfl ?_
                          show kK g (wX4 E h cd n rt sc on lo hi non nlo nhi fl_27 tlo1_29 thi1_30 le gr) [(0, .ref (h 0)), (1, .int (nI p)), (2, .int (cd (4 * p))), (3, .int (cd (4 * p + 1))), (4, .int (cd (4 * p + 2))), (5, .int (nI i))] 0 0 313 []
                          have hfin : FRep (fl_27 0) tlo1_29 thi1_30 (fN cd p X) := by
                            first
                            | exact frep_b (v := true) (hfl0.mpr (by omega)) (flow_11 hF0 (by omega) hs)
                            | exact frep_b (v := true) (hfl0.mpr (by omega)) (flow_7s hF0 (by omega) hb4 hR (by assumption) (by assumption) hs)
                            | exact frep_b (v := false) (by simp [*, upB]) (flow_7n (by omega) hb4 hR (Or.inl (by assumption)))
                            | exact frep_b (v := false) (by simp [*, upB]) (flow_7n (by omega) hb4 hR (Or.inr (by assumption)))
                          refine k_iload_n F (pc := 313) 2 rfl dX4_flow_313 rfl ?_
                          refine k_bipush F (pc := 314) ((nI 9)) dX4_flow_314 (by decide) ?_
                          refine k_icmp_ne F (pc := 316) 327 dX4_flow_316 (by decide) rfl (show (nI 9 : Int32).toInt = 9 by decide) (fun c_33 => ?_) (fun c_33 => ?_)
                          · skip
                            refine k_vret F Rr (pc := 327) dX4_flow_327 ⟨fl_27, tlo1_29, thi1_30, le, gr, rfl, rfl, ?_⟩
                            first
                            | exact hfin
                            | exact ⟨hfin, by rw [fP_no (by omega) (by omega)]; exact frep_b (v := false) (by first | exact bff hfl1 (by omega) | exact hs.2.2.trans (bff hfl1 (by omega)) | (simp only [*, upB]; exact bff hfl1 (by omega))) frep_none⟩
                            | exact ⟨by rw [fN_no (by omega)]; exact frep_b (v := false) (bff hfl0 (by omega)) frep_none, by rw [fP_no (by omega) (by omega)]; exact frep_b (v := false) (bff hfl1 (by omega)) frep_none⟩
                            | exact ⟨by rw [fN_no (by omega)]; exact frep_b (v := false) (bff hfl0 (by omega)) frep_none, by rw [fP_10 (by omega)]; exact frep_b (v := true) (hfl1.mpr (by omega)) hF1⟩
                            | exact ⟨frep_b (v := true) (hfl0.mpr (by omega)) (flow_8s hF0 (by omega) hb4 hR (by assumption) (by assumption)), by rw [fP_no (by omega) (by omega)]; exact frep_b (v := false) (bff hfl1 (by omega)) frep_none⟩
                            | exact ⟨frep_b (v := false) (by simp [*, upB]) (flow_7n (by omega) hb4 hR (Or.inl (by assumption))), by rw [fP_no (by omega) (by omega)]; exact frep_b (v := false) (by simp only [*, upB]; exact bff hfl1 (by omega)) frep_none⟩
                            | exact ⟨frep_b (v := false) (by simp [*, upB]) (flow_7n (by omega) hb4 hR (Or.inr (by assumption))), by rw [fP_no (by omega) (by omega)]; exact frep_b (v := false) (by simp only [*, upB]; exact bff hfl1 (by omega)) frep_none⟩
                          · skip
                            exfalso; omega
                        · skip
                          exfalso; omega
                  · skip
                    refine k_iload_n F (pc := 243) 2 rfl dX4_flow_243 rfl ?_
                    refine k_bipush F (pc := 244) ((nI 8)) dX4_flow_244 (by decide) ?_
                    refine k_icmp_ne F (pc := 246) 290 dX4_flow_246 (by decide) rfl (show (nI 8 : Int32).toInt = 8 by decide) (fun c_34 => ?_) (fun c_34 => ?_)
                    · skip
                      refine k_iload_n F (pc := 290) 2 rfl dX4_flow_290 rfl ?_
                      refine k_bipush F (pc := 291) ((nI 7)) dX4_flow_291 (by decide) ?_
                      refine k_icmp_eq F (pc := 293) 302 dX4_flow_293 (by decide) rfl (show (nI 7 : Int32).toInt = 7 by decide) (fun c_35 => ?_) (fun c_35 => ?_)
                      · skip
                        exfalso; omega
                      · skip
                        refine k_iload_n F (pc := 296) 2 rfl dX4_flow_296 rfl ?_
                        refine k_bipush F (pc := 297) ((nI 11)) dX4_flow_297 (by decide) ?_
                        refine k_icmp_ne F (pc := 299) 313 dX4_flow_299 (by decide) rfl (show (nI 11 : Int32).toInt = 11 by decide) (fun c_36 => ?_) (fun c_36 => ?_)
                        · skip
                          refine k_iload_n F (pc := 313) 2 rfl dX4_flow_313 rfl ?_
                          refine k_bipush F (pc := 314) ((nI 9)) dX4_flow_314 (by decide) ?_
                          refine k_icmp_ne F (pc := 316) 327 dX4_flow_316 (by decide) rfl (show (nI 9 : Int32).toInt = 9 by decide) (fun c_37 => ?_) (fun c_37 => ?_)
                          · skip
                            refine k_vret F Rr (pc := 327) dX4_flow_327 ⟨fl2, tlo2, thi2, le, gr, rfl, rfl, ?_⟩
                            first
                            | exact hfin
                            | exact ⟨hfin, by rw [fP_no (by omega) (by omega)]; exact frep_b (v := false) (by first | exact bff hfl1 (by omega) | exact hs.2.2.trans (bff hfl1 (by omega)) | (simp only [*, upB]; exact bff hfl1 (by omega))) frep_none⟩
                            | exact ⟨by rw [fN_no (by omega)]; exact frep_b (v := false) (bff hfl0 (by omega)) frep_none, by rw [fP_no (by omega) (by omega)]; exact frep_b (v := false) (bff hfl1 (by omega)) frep_none⟩
                            | exact ⟨by rw [fN_no (by omega)]; exact frep_b (v := false) (bff hfl0 (by omega)) frep_none, by rw [fP_10 (by omega)]; exact frep_b (v := true) (hfl1.mpr (by omega)) hF1⟩
                            | exact ⟨frep_b (v := true) (hfl0.mpr (by omega)) (flow_8s hF0 (by omega) hb4 hR (by assumption) (by assumption)), by rw [fP_no (by omega) (by omega)]; exact frep_b (v := false) (bff hfl1 (by omega)) frep_none⟩
                            | exact ⟨frep_b (v := false) (by simp [*, upB]) (flow_7n (by omega) hb4 hR (Or.inl (by assumption))), by rw [fP_no (by omega) (by omega)]; exact frep_b (v := false) (by simp only [*, upB]; exact bff hfl1 (by omega)) frep_none⟩
                            | exact ⟨frep_b (v := false) (by simp [*, upB]) (flow_7n (by omega) hb4 hR (Or.inr (by assumption))), by rw [fP_no (by omega) (by omega)]; exact frep_b (v := false) (by simp only [*, upB]; exact bff hfl1 (by omega)) frep_none⟩
                          · skip
                            have hop := c_37
                            obtain ⟨ea, ha4⟩ := okP_a hok (by omega)
                            obtain ⟨eb, hb4⟩ := okP_b hok (by omega)
                            refine k_aload_n F (pc := 319) 0 rfl dX4_flow_319 rfl ?_
                            refine k_iload_n F (pc := 320) 1 rfl dX4_flow_320 rfl ?_
                            refine k_iload_n F (pc := 321) 3 rfl dX4_flow_321 rfl ?_
                            refine k_topi (nI ((cd (4 * p + 1)).toNatClampNeg)) ea ?_
                            refine k_iload F (pc := 322) 4 rfl dX4_flow_322 ?_
                            refine k_topi (nI ((cd (4 * p + 2)).toNatClampNeg)) eb ?_
                            refine k_callV F (pc := 324) (C := RX4) (T := TX4) (N := 15) (ci := 4) [.int (nI p), .int (nI ((cd (4 * p + 1)).toNatClampNeg)), .int (nI ((cd (4 * p + 2)).toNatClampNeg))] [] 3 (wX4 E h cd n rt sc on lo hi non nlo nhi fl2 tlo2 thi2 le gr) [] [0, 1, 2, 3, 4, 5, 6, 7, 8, 9, 10] [] (m_X4_compare l E h cd n rt sc on lo hi non nlo nhi fl2 tlo2 thi2 le gr p ((cd (4 * p + 1)).toNatClampNeg) ((cd (4 * p + 2)).toNatClampNeg) X (by omega) (by omega) (by omega) hR (fun v hv => hcp v (by omega)) (hfl0.mpr (by omega)) (hfl1.mpr (by omega))) dX4_flow_324 gX4_flow_X4_compare rfl (by decide +kernel) rfl ⟨rfl, rfl⟩ (by decide) rfl (Nat.le_of_ble_eq_true rfl) (by decide) rfl rfl rfl rfl (by decide) (by decide) (by decide) ?_
                            rintro v_41 w_42 ⟨fl1_38, tlo1_39, thi1_40, rfl, rfl, hq⟩
                            refine k_perm (wX4 E h cd n rt sc on lo hi non nlo nhi fl1_38 tlo1_39 thi1_40 le gr) [0, 1, 2, 3, 4, 5, 6, 7, 8, 9, 10] (by decide) rfl ?_
                            show kK g (wX4 E h cd n rt sc on lo hi non nlo nhi fl1_38 tlo1_39 thi1_40 le gr) [(0, .ref (h 0)), (1, .int (nI p)), (2, .int (cd (4 * p))), (3, .int (cd (4 * p + 1))), (4, .int (cd (4 * p + 2))), (5, .int (nI i))] 0 0 327 []
                            rw [← fN_9 hop, ← fP_9 hop] at hq
                            have hfin := hq
                            refine k_vret F Rr (pc := 327) dX4_flow_327 ⟨fl1_38, tlo1_39, thi1_40, le, gr, rfl, rfl, ?_⟩
                            first
                            | exact hfin
                            | exact ⟨hfin, by rw [fP_no (by omega) (by omega)]; exact frep_b (v := false) (by first | exact bff hfl1 (by omega) | exact hs.2.2.trans (bff hfl1 (by omega)) | (simp only [*, upB]; exact bff hfl1 (by omega))) frep_none⟩
                            | exact ⟨by rw [fN_no (by omega)]; exact frep_b (v := false) (bff hfl0 (by omega)) frep_none, by rw [fP_no (by omega) (by omega)]; exact frep_b (v := false) (bff hfl1 (by omega)) frep_none⟩
                            | exact ⟨by rw [fN_no (by omega)]; exact frep_b (v := false) (bff hfl0 (by omega)) frep_none, by rw [fP_10 (by omega)]; exact frep_b (v := true) (hfl1.mpr (by omega)) hF1⟩
                            | exact ⟨frep_b (v := true) (hfl0.mpr (by omega)) (flow_8s hF0 (by omega) hb4 hR (by assumption) (by assumption)), by rw [fP_no (by omega) (by omega)]; exact frep_b (v := false) (bff hfl1 (by omega)) frep_none⟩
                            | exact ⟨frep_b (v := false) (by simp [*, upB]) (flow_7n (by omega) hb4 hR (Or.inl (by assumption))), by rw [fP_no (by omega) (by omega)]; exact frep_b (v := false) (by simp only [*, upB]; exact bff hfl1 (by omega)) frep_none⟩
                            | exact ⟨frep_b (v := false) (by simp [*, upB]) (flow_7n (by omega) hb4 hR (Or.inr (by assumption))), by rw [fP_no (by omega) (by omega)]; exact frep_b (v := false) (by simp only [*, upB]; exact bff hfl1 (by omega)) frep_none⟩
                        · skip
                          have hop := c_36
                          obtain ⟨ea, ha4⟩ := okP_a hok (by omega)
                          refine k_aload_n F (pc := 302) 0 rfl dX4_flow_302 rfl ?_
                          refine k_iload_n F (pc := 303) 3 rfl dX4_flow_303 rfl ?_
                          refine k_topi (nI ((cd (4 * p + 1)).toNatClampNeg)) ea ?_
                          refine k_ldc2 F (pc := 304) (-2147483648) dX4_flow_304 zm_X4_flow_c66 ?_
                          refine k_ldc2 F (pc := 307) (2147483647) dX4_flow_307 zm_X4_flow_c68 ?_
                          refine k_callV F (pc := 310) (C := RX4) (T := TX4) (N := 15) (ci := 4) [.int (nI ((cd (4 * p + 1)).toNatClampNeg)), .long (-2147483648), .long 2147483647] [] 3 (wX4 E h cd n rt sc on lo hi non nlo nhi fl2 tlo2 thi2 le gr) [] [0, 1, 2, 3, 4, 5, 6, 7, 8, 9, 10] [] (m_X4_set l E h cd n rt sc on lo hi non nlo nhi fl2 tlo2 thi2 le gr ((cd (4 * p + 1)).toNatClampNeg) (-2147483648) 2147483647 (by omega)) dX4_flow_310 gX4_flow_X4_set rfl (by decide +kernel) rfl ⟨rfl, rfl⟩ (by decide) rfl (Nat.le_of_ble_eq_true rfl) (by decide) rfl rfl rfl rfl (by decide) (by decide) (by decide) ?_
                          rintro v_45 w_46 ⟨tlo1_43, thi1_44, rfl, rfl, hs⟩
                          refine k_perm (wX4 E h cd n rt sc on lo hi non nlo nhi fl2 tlo1_43 thi1_44 le gr) [0, 1, 2, 3, 4, 5, 6, 7, 8, 9, 10] (by decide) rfl ?_
                          show kK g (wX4 E h cd n rt sc on lo hi non nlo nhi fl2 tlo1_43 thi1_44 le gr) [(0, .ref (h 0)), (1, .int (nI p)), (2, .int (cd (4 * p))), (3, .int (cd (4 * p + 1))), (4, .int (cd (4 * p + 2))), (5, .int (nI i))] 0 0 313 []
                          have hfin : FRep (fl2 0) tlo1_43 thi1_44 (fN cd p X) := by
                            first
                            | exact frep_b (v := true) (hfl0.mpr (by omega)) (flow_11 hF0 (by omega) hs)
                            | exact frep_b (v := true) (hfl0.mpr (by omega)) (flow_7s hF0 (by omega) hb4 hR (by assumption) (by assumption) hs)
                            | exact frep_b (v := false) (by simp [*, upB]) (flow_7n (by omega) hb4 hR (Or.inl (by assumption)))
                            | exact frep_b (v := false) (by simp [*, upB]) (flow_7n (by omega) hb4 hR (Or.inr (by assumption)))
                          refine k_iload_n F (pc := 313) 2 rfl dX4_flow_313 rfl ?_
                          refine k_bipush F (pc := 314) ((nI 9)) dX4_flow_314 (by decide) ?_
                          refine k_icmp_ne F (pc := 316) 327 dX4_flow_316 (by decide) rfl (show (nI 9 : Int32).toInt = 9 by decide) (fun c_47 => ?_) (fun c_47 => ?_)
                          · skip
                            refine k_vret F Rr (pc := 327) dX4_flow_327 ⟨fl2, tlo1_43, thi1_44, le, gr, rfl, rfl, ?_⟩
                            first
                            | exact hfin
                            | exact ⟨hfin, by rw [fP_no (by omega) (by omega)]; exact frep_b (v := false) (by first | exact bff hfl1 (by omega) | exact hs.2.2.trans (bff hfl1 (by omega)) | (simp only [*, upB]; exact bff hfl1 (by omega))) frep_none⟩
                            | exact ⟨by rw [fN_no (by omega)]; exact frep_b (v := false) (bff hfl0 (by omega)) frep_none, by rw [fP_no (by omega) (by omega)]; exact frep_b (v := false) (bff hfl1 (by omega)) frep_none⟩
                            | exact ⟨by rw [fN_no (by omega)]; exact frep_b (v := false) (bff hfl0 (by omega)) frep_none, by rw [fP_10 (by omega)]; exact frep_b (v := true) (hfl1.mpr (by omega)) hF1⟩
                            | exact ⟨frep_b (v := true) (hfl0.mpr (by omega)) (flow_8s hF0 (by omega) hb4 hR (by assumption) (by assumption)), by rw [fP_no (by omega) (by omega)]; exact frep_b (v := false) (bff hfl1 (by omega)) frep_none⟩
                            | exact ⟨frep_b (v := false) (by simp [*, upB]) (flow_7n (by omega) hb4 hR (Or.inl (by assumption))), by rw [fP_no (by omega) (by omega)]; exact frep_b (v := false) (by simp only [*, upB]; exact bff hfl1 (by omega)) frep_none⟩
                            | exact ⟨frep_b (v := false) (by simp [*, upB]) (flow_7n (by omega) hb4 hR (Or.inr (by assumption))), by rw [fP_no (by omega) (by omega)]; exact frep_b (v := false) (by simp only [*, upB]; exact bff hfl1 (by omega)) frep_none⟩
                          · skip
                            exfalso; omega
                    · skip
                      have hop := c_34
                      obtain ⟨ea, ha4⟩ := okP_a hok (by omega)
                      obtain ⟨eb, hb4⟩ := okP_b hok (by omega)
                      refine k_aload_n F (pc := 249) 0 rfl dX4_flow_249 rfl ?_
                      refine k_get F (pc := 250) (ref := RX4) (C := RX4) (T := TX4) (N := 15) (ci := 4) 0 6 dX4_flow_250 zin_X4_flow_X4 rfl rfl (by decide) zm_X4_flow_f21 rfl rfl ?_
                      refine k_iconst F (pc := 253) ((nI 4)) dX4_flow_253 (by decide) ?_
                      refine k_iload_n F (pc := 254) 1 rfl dX4_flow_254 rfl ?_
                      refine k_imulN F (pc := 255) dX4_flow_255 ?_
                      refine k_iload F (pc := 256) 4 rfl dX4_flow_256 ?_
                      refine k_topi (nI ((cd (4 * p + 2)).toNatClampNeg)) eb ?_
                      refine k_iaddN F (pc := 258) dX4_flow_258 ?_
                      refine k_lald F (pc := 259) 4 dX4_flow_259 rfl (by omega) (by decide) ?_
                      refine k_lconst F (pc := 260) 0 dX4_flow_260 (by decide) ?_
                      refine k_lcmp_lt F (pc := 261) 283 dX4_flow_261 dX4_flow_262 (by decide) (fun c_48 => ?_) (fun c_48 => ?_)
                      · skip
                        refine k_aload_n F (pc := 283) 0 rfl dX4_flow_283 rfl ?_
                        refine k_get F (pc := 284) (ref := RX4) (C := RX4) (T := TX4) (N := 15) (ci := 4) 0 10 dX4_flow_284 zin_X4_flow_X4 rfl rfl (by decide) zm_X4_flow_f33 rfl rfl ?_
                        refine k_iconst F (pc := 287) ((nI 0)) dX4_flow_287 (by decide) ?_
                        refine k_iconst F (pc := 288) ((nI 0)) dX4_flow_288 (by decide) ?_
                        refine k_zast F (pc := 289) false 8 (fun fl_49 => (wX4 E h cd n rt sc on lo hi non nlo nhi fl_49 tlo2 thi2 le gr)) dX4_flow_289 rfl rfl (by omega) (by decide) (fun _ => rfl) (fun fl_49 efl_49 => ?_)
                        refine k_iload_n F (pc := 290) 2 rfl dX4_flow_290 rfl ?_
                        refine k_bipush F (pc := 291) ((nI 7)) dX4_flow_291 (by decide) ?_
                        refine k_icmp_eq F (pc := 293) 302 dX4_flow_293 (by decide) rfl (show (nI 7 : Int32).toInt = 7 by decide) (fun c_50 => ?_) (fun c_50 => ?_)
                        · skip
                          exfalso; omega
                        · skip
                          refine k_iload_n F (pc := 296) 2 rfl dX4_flow_296 rfl ?_
                          refine k_bipush F (pc := 297) ((nI 11)) dX4_flow_297 (by decide) ?_
                          refine k_icmp_ne F (pc := 299) 313 dX4_flow_299 (by decide) rfl (show (nI 11 : Int32).toInt = 11 by decide) (fun c_51 => ?_) (fun c_51 => ?_)
                          · skip
                            refine k_iload_n F (pc := 313) 2 rfl dX4_flow_313 rfl ?_
                            refine k_bipush F (pc := 314) ((nI 9)) dX4_flow_314 (by decide) ?_
                            refine k_icmp_ne F (pc := 316) 327 dX4_flow_316 (by decide) rfl (show (nI 9 : Int32).toInt = 9 by decide) (fun c_52 => ?_) (fun c_52 => ?_)
                            · skip
                              refine k_vret F Rr (pc := 327) dX4_flow_327 ⟨fl_49, tlo2, thi2, le, gr, rfl, rfl, ?_⟩
                              first
                              | exact hfin
                              | exact ⟨hfin, by rw [fP_no (by omega) (by omega)]; exact frep_b (v := false) (by first | exact bff hfl1 (by omega) | exact hs.2.2.trans (bff hfl1 (by omega)) | (simp only [*, upB]; exact bff hfl1 (by omega))) frep_none⟩
                              | exact ⟨by rw [fN_no (by omega)]; exact frep_b (v := false) (bff hfl0 (by omega)) frep_none, by rw [fP_no (by omega) (by omega)]; exact frep_b (v := false) (bff hfl1 (by omega)) frep_none⟩
                              | exact ⟨by rw [fN_no (by omega)]; exact frep_b (v := false) (bff hfl0 (by omega)) frep_none, by rw [fP_10 (by omega)]; exact frep_b (v := true) (hfl1.mpr (by omega)) hF1⟩
                              | exact ⟨frep_b (v := true) (hfl0.mpr (by omega)) (flow_8s hF0 (by omega) hb4 hR (by assumption) (by assumption)), by rw [fP_no (by omega) (by omega)]; exact frep_b (v := false) (bff hfl1 (by omega)) frep_none⟩
                              | exact ⟨frep_b (v := false) (by simp [*, upB]) (flow_7n (by omega) hb4 hR (Or.inl (by assumption))), by rw [fP_no (by omega) (by omega)]; exact frep_b (v := false) (by simp only [*, upB]; exact bff hfl1 (by omega)) frep_none⟩
                              | exact ⟨frep_b (v := false) (by simp [*, upB]) (flow_7n (by omega) hb4 hR (Or.inr (by assumption))), by rw [fP_no (by omega) (by omega)]; exact frep_b (v := false) (by simp only [*, upB]; exact bff hfl1 (by omega)) frep_none⟩
                            · skip
                              exfalso; omega
                          · skip
                            exfalso; omega
                      · skip
                        refine k_aload_n F (pc := 265) 0 rfl dX4_flow_265 rfl ?_
                        refine k_get F (pc := 266) (ref := RX4) (C := RX4) (T := TX4) (N := 15) (ci := 4) 0 5 dX4_flow_266 zin_X4_flow_X4 rfl rfl (by decide) zm_X4_flow_f17 rfl rfl ?_
                        refine k_iconst F (pc := 269) ((nI 4)) dX4_flow_269 (by decide) ?_
                        refine k_iload_n F (pc := 270) 1 rfl dX4_flow_270 rfl ?_
                        refine k_imulN F (pc := 271) dX4_flow_271 ?_
                        refine k_iload F (pc := 272) 4 rfl dX4_flow_272 ?_
                        refine k_topi (nI ((cd (4 * p + 2)).toNatClampNeg)) eb ?_
                        refine k_iaddN F (pc := 274) dX4_flow_274 ?_
                        refine k_lald F (pc := 275) 3 dX4_flow_275 rfl (by omega) (by decide) ?_
                        refine k_ldc2 F (pc := 276) (7) dX4_flow_276 zm_X4_flow_c96 ?_
                        refine k_lcmp_le F (pc := 279) 290 dX4_flow_279 dX4_flow_280 (by decide) (fun c_53 => ?_) (fun c_53 => ?_)
                        · skip
                          refine k_iload_n F (pc := 290) 2 rfl dX4_flow_290 rfl ?_
                          refine k_bipush F (pc := 291) ((nI 7)) dX4_flow_291 (by decide) ?_
                          refine k_icmp_eq F (pc := 293) 302 dX4_flow_293 (by decide) rfl (show (nI 7 : Int32).toInt = 7 by decide) (fun c_54 => ?_) (fun c_54 => ?_)
                          · skip
                            exfalso; omega
                          · skip
                            refine k_iload_n F (pc := 296) 2 rfl dX4_flow_296 rfl ?_
                            refine k_bipush F (pc := 297) ((nI 11)) dX4_flow_297 (by decide) ?_
                            refine k_icmp_ne F (pc := 299) 313 dX4_flow_299 (by decide) rfl (show (nI 11 : Int32).toInt = 11 by decide) (fun c_55 => ?_) (fun c_55 => ?_)
                            · skip
                              refine k_iload_n F (pc := 313) 2 rfl dX4_flow_313 rfl ?_
                              refine k_bipush F (pc := 314) ((nI 9)) dX4_flow_314 (by decide) ?_
                              refine k_icmp_ne F (pc := 316) 327 dX4_flow_316 (by decide) rfl (show (nI 9 : Int32).toInt = 9 by decide) (fun c_56 => ?_) (fun c_56 => ?_)
                              · skip
                                refine k_vret F Rr (pc := 327) dX4_flow_327 ⟨fl2, tlo2, thi2, le, gr, rfl, rfl, ?_⟩
                                first
                                | exact hfin
                                | exact ⟨hfin, by rw [fP_no (by omega) (by omega)]; exact frep_b (v := false) (by first | exact bff hfl1 (by omega) | exact hs.2.2.trans (bff hfl1 (by omega)) | (simp only [*, upB]; exact bff hfl1 (by omega))) frep_none⟩
                                | exact ⟨by rw [fN_no (by omega)]; exact frep_b (v := false) (bff hfl0 (by omega)) frep_none, by rw [fP_no (by omega) (by omega)]; exact frep_b (v := false) (bff hfl1 (by omega)) frep_none⟩
                                | exact ⟨by rw [fN_no (by omega)]; exact frep_b (v := false) (bff hfl0 (by omega)) frep_none, by rw [fP_10 (by omega)]; exact frep_b (v := true) (hfl1.mpr (by omega)) hF1⟩
                                | exact ⟨frep_b (v := true) (hfl0.mpr (by omega)) (flow_8s hF0 (by omega) hb4 hR (by assumption) (by assumption)), by rw [fP_no (by omega) (by omega)]; exact frep_b (v := false) (bff hfl1 (by omega)) frep_none⟩
                                | exact ⟨frep_b (v := false) (by simp [*, upB]) (flow_7n (by omega) hb4 hR (Or.inl (by assumption))), by rw [fP_no (by omega) (by omega)]; exact frep_b (v := false) (by simp only [*, upB]; exact bff hfl1 (by omega)) frep_none⟩
                                | exact ⟨frep_b (v := false) (by simp [*, upB]) (flow_7n (by omega) hb4 hR (Or.inr (by assumption))), by rw [fP_no (by omega) (by omega)]; exact frep_b (v := false) (by simp only [*, upB]; exact bff hfl1 (by omega)) frep_none⟩
                              · skip
                                exfalso; omega
                            · skip
                              exfalso; omega
                        · skip
                          refine k_aload_n F (pc := 283) 0 rfl dX4_flow_283 rfl ?_
                          refine k_get F (pc := 284) (ref := RX4) (C := RX4) (T := TX4) (N := 15) (ci := 4) 0 10 dX4_flow_284 zin_X4_flow_X4 rfl rfl (by decide) zm_X4_flow_f33 rfl rfl ?_
                          refine k_iconst F (pc := 287) ((nI 0)) dX4_flow_287 (by decide) ?_
                          refine k_iconst F (pc := 288) ((nI 0)) dX4_flow_288 (by decide) ?_
                          refine k_zast F (pc := 289) false 8 (fun fl_57 => (wX4 E h cd n rt sc on lo hi non nlo nhi fl_57 tlo2 thi2 le gr)) dX4_flow_289 rfl rfl (by omega) (by decide) (fun _ => rfl) (fun fl_57 efl_57 => ?_)
                          refine k_iload_n F (pc := 290) 2 rfl dX4_flow_290 rfl ?_
                          refine k_bipush F (pc := 291) ((nI 7)) dX4_flow_291 (by decide) ?_
                          refine k_icmp_eq F (pc := 293) 302 dX4_flow_293 (by decide) rfl (show (nI 7 : Int32).toInt = 7 by decide) (fun c_58 => ?_) (fun c_58 => ?_)
                          · skip
                            exfalso; omega
                          · skip
                            refine k_iload_n F (pc := 296) 2 rfl dX4_flow_296 rfl ?_
                            refine k_bipush F (pc := 297) ((nI 11)) dX4_flow_297 (by decide) ?_
                            refine k_icmp_ne F (pc := 299) 313 dX4_flow_299 (by decide) rfl (show (nI 11 : Int32).toInt = 11 by decide) (fun c_59 => ?_) (fun c_59 => ?_)
                            · skip
                              refine k_iload_n F (pc := 313) 2 rfl dX4_flow_313 rfl ?_
                              refine k_bipush F (pc := 314) ((nI 9)) dX4_flow_314 (by decide) ?_
                              refine k_icmp_ne F (pc := 316) 327 dX4_flow_316 (by decide) rfl (show (nI 9 : Int32).toInt = 9 by decide) (fun c_60 => ?_) (fun c_60 => ?_)
                              · skip
                                refine k_vret F Rr (pc := 327) dX4_flow_327 ⟨fl_57, tlo2, thi2, le, gr, rfl, rfl, ?_⟩
                                first
                                | exact hfin
                                | exact ⟨hfin, by rw [fP_no (by omega) (by omega)]; exact frep_b (v := false) (by first | exact bff hfl1 (by omega) | exact hs.2.2.trans (bff hfl1 (by omega)) | (simp only [*, upB]; exact bff hfl1 (by omega))) frep_none⟩
                                | exact ⟨by rw [fN_no (by omega)]; exact frep_b (v := false) (bff hfl0 (by omega)) frep_none, by rw [fP_no (by omega) (by omega)]; exact frep_b (v := false) (bff hfl1 (by omega)) frep_none⟩
                                | exact ⟨by rw [fN_no (by omega)]; exact frep_b (v := false) (bff hfl0 (by omega)) frep_none, by rw [fP_10 (by omega)]; exact frep_b (v := true) (hfl1.mpr (by omega)) hF1⟩
                                | exact ⟨frep_b (v := true) (hfl0.mpr (by omega)) (flow_8s hF0 (by omega) hb4 hR (by assumption) (by assumption)), by rw [fP_no (by omega) (by omega)]; exact frep_b (v := false) (bff hfl1 (by omega)) frep_none⟩
                                | exact ⟨frep_b (v := false) (by simp [*, upB]) (flow_7n (by omega) hb4 hR (Or.inl (by assumption))), by rw [fP_no (by omega) (by omega)]; exact frep_b (v := false) (by simp only [*, upB]; exact bff hfl1 (by omega)) frep_none⟩
                                | exact ⟨frep_b (v := false) (by simp [*, upB]) (flow_7n (by omega) hb4 hR (Or.inr (by assumption))), by rw [fP_no (by omega) (by omega)]; exact frep_b (v := false) (by simp only [*, upB]; exact bff hfl1 (by omega)) frep_none⟩
                              · skip
                                exfalso; omega
                            · skip
                              exfalso; omega
                · skip
                  have hop : 3 ≤ (cd (4 * p)).toInt ∧ (cd (4 * p)).toInt ≤ 6 := by omega
                  obtain ⟨ea, ha4⟩ := okP_a hok (by omega)
                  obtain ⟨eb, hb4⟩ := okP_b hok (by omega)
                  obtain ⟨ec, hc4⟩ := okP_c hok (by omega)
                  refine k_aload_n F (pc := 218) 0 rfl dX4_flow_218 rfl ?_
                  refine k_iload_n F (pc := 219) 2 rfl dX4_flow_219 rfl ?_
                  refine k_iload_n F (pc := 220) 1 rfl dX4_flow_220 rfl ?_
                  refine k_iload_n F (pc := 221) 3 rfl dX4_flow_221 rfl ?_
                  refine k_topi (nI ((cd (4 * p + 1)).toNatClampNeg)) ea ?_
                  refine k_iload F (pc := 222) 4 rfl dX4_flow_222 ?_
                  refine k_topi (nI ((cd (4 * p + 2)).toNatClampNeg)) eb ?_
                  refine k_aload_n F (pc := 224) 0 rfl dX4_flow_224 rfl ?_
                  refine k_get F (pc := 225) (ref := RX4) (C := RX4) (T := TX4) (N := 15) (ci := 4) 0 0 dX4_flow_225 zin_X4_flow_X4 rfl rfl (by decide) zm_X4_flow_f7 rfl rfl ?_
                  refine k_iconst F (pc := 228) ((nI 4)) dX4_flow_228 (by decide) ?_
                  refine k_iload_n F (pc := 229) 1 rfl dX4_flow_229 rfl ?_
                  refine k_imulN F (pc := 230) dX4_flow_230 ?_
                  refine k_iconst F (pc := 231) ((nI 3)) dX4_flow_231 (by decide) ?_
                  refine k_iaddN F (pc := 232) dX4_flow_232 ?_
                  refine k_iald F (pc := 233) 1 dX4_flow_233 rfl (by omega) (by decide) ?_
                  refine k_topi (nI ((cd (4 * p + 3)).toNatClampNeg)) ec ?_
                  refine k_callV F (pc := 234) (C := RX4) (T := TX4) (N := 15) (ci := 4) [.int (cd (4 * p)), .int (nI p), .int (nI ((cd (4 * p + 1)).toNatClampNeg)), .int (nI ((cd (4 * p + 2)).toNatClampNeg)), .int (nI ((cd (4 * p + 3)).toNatClampNeg))] [] 5 (wX4 E h cd n rt sc on lo hi non nlo nhi fl2 tlo2 thi2 le gr) [] [0, 1, 2, 3, 4, 5, 6, 7, 8, 9, 10] [] (m_X4_calculate l E h cd n rt sc on lo hi non nlo nhi fl2 tlo2 thi2 le gr (cd (4 * p)) p ((cd (4 * p + 1)).toNatClampNeg) ((cd (4 * p + 2)).toNatClampNeg) ((cd (4 * p + 3)).toNatClampNeg) (by omega) (by omega) (by omega) (by omega) (by omega) (by rw [(hR _ hc4).1, (hR _ hc4).2]; exact (hX _ hc4).2.1) (hfl0.mpr (by omega))) dX4_flow_234 gX4_flow_X4_calculate rfl (by decide +kernel) rfl ⟨rfl, rfl⟩ (by decide) rfl (Nat.le_of_ble_eq_true rfl) (by decide) rfl rfl rfl rfl (by decide) (by decide) (by decide) ?_
                  rintro v_66 w_67 ⟨fl1_61, tlo1_62, thi1_63, le1_64, gr1_65, rfl, rfl, hs⟩
                  refine k_perm (wX4 E h cd n rt sc on lo hi non nlo nhi fl1_61 tlo1_62 thi1_63 le1_64 gr1_65) [0, 1, 2, 3, 4, 5, 6, 7, 8, 9, 10] (by decide) rfl ?_
                  show kK g (wX4 E h cd n rt sc on lo hi non nlo nhi fl1_61 tlo1_62 thi1_63 le1_64 gr1_65) [(0, .ref (h 0)), (1, .int (nI p)), (2, .int (cd (4 * p))), (3, .int (cd (4 * p + 1))), (4, .int (cd (4 * p + 2))), (5, .int (nI i))] 0 0 237 []
                  have hfin : FRep (fl1_61 0) tlo1_62 thi1_63 (fN cd p X) := flow_3 hF0 hop hb4 hc4 hR hs
                  refine k_iload_n F (pc := 237) 2 rfl dX4_flow_237 rfl ?_
                  refine k_bipush F (pc := 238) ((nI 7)) dX4_flow_238 (by decide) ?_
                  refine k_icmp_eq F (pc := 240) 249 dX4_flow_240 (by decide) rfl (show (nI 7 : Int32).toInt = 7 by decide) (fun c_68 => ?_) (fun c_68 => ?_)
                  · skip
                    exfalso; omega
                  · skip
                    refine k_iload_n F (pc := 243) 2 rfl dX4_flow_243 rfl ?_
                    refine k_bipush F (pc := 244) ((nI 8)) dX4_flow_244 (by decide) ?_
                    refine k_icmp_ne F (pc := 246) 290 dX4_flow_246 (by decide) rfl (show (nI 8 : Int32).toInt = 8 by decide) (fun c_69 => ?_) (fun c_69 => ?_)
                    · skip
                      refine k_iload_n F (pc := 290) 2 rfl dX4_flow_290 rfl ?_
                      refine k_bipush F (pc := 291) ((nI 7)) dX4_flow_291 (by decide) ?_
                      refine k_icmp_eq F (pc := 293) 302 dX4_flow_293 (by decide) rfl (show (nI 7 : Int32).toInt = 7 by decide) (fun c_70 => ?_) (fun c_70 => ?_)
                      · skip
                        exfalso; omega
                      · skip
                        refine k_iload_n F (pc := 296) 2 rfl dX4_flow_296 rfl ?_
                        refine k_bipush F (pc := 297) ((nI 11)) dX4_flow_297 (by decide) ?_
                        refine k_icmp_ne F (pc := 299) 313 dX4_flow_299 (by decide) rfl (show (nI 11 : Int32).toInt = 11 by decide) (fun c_71 => ?_) (fun c_71 => ?_)
                        · skip
                          refine k_iload_n F (pc := 313) 2 rfl dX4_flow_313 rfl ?_
                          refine k_bipush F (pc := 314) ((nI 9)) dX4_flow_314 (by decide) ?_
                          refine k_icmp_ne F (pc := 316) 327 dX4_flow_316 (by decide) rfl (show (nI 9 : Int32).toInt = 9 by decide) (fun c_72 => ?_) (fun c_72 => ?_)
                          · skip
                            refine k_vret F Rr (pc := 327) dX4_flow_327 ⟨fl1_61, tlo1_62, thi1_63, le1_64, gr1_65, rfl, rfl, ?_⟩
                            first
                            | exact hfin
                            | exact ⟨hfin, by rw [fP_no (by omega) (by omega)]; exact frep_b (v := false) (by first | exact bff hfl1 (by omega) | exact hs.2.2.trans (bff hfl1 (by omega)) | (simp only [*, upB]; exact bff hfl1 (by omega))) frep_none⟩
                            | exact ⟨by rw [fN_no (by omega)]; exact frep_b (v := false) (bff hfl0 (by omega)) frep_none, by rw [fP_no (by omega) (by omega)]; exact frep_b (v := false) (bff hfl1 (by omega)) frep_none⟩
                            | exact ⟨by rw [fN_no (by omega)]; exact frep_b (v := false) (bff hfl0 (by omega)) frep_none, by rw [fP_10 (by omega)]; exact frep_b (v := true) (hfl1.mpr (by omega)) hF1⟩
                            | exact ⟨frep_b (v := true) (hfl0.mpr (by omega)) (flow_8s hF0 (by omega) hb4 hR (by assumption) (by assumption)), by rw [fP_no (by omega) (by omega)]; exact frep_b (v := false) (bff hfl1 (by omega)) frep_none⟩
                            | exact ⟨frep_b (v := false) (by simp [*, upB]) (flow_7n (by omega) hb4 hR (Or.inl (by assumption))), by rw [fP_no (by omega) (by omega)]; exact frep_b (v := false) (by simp only [*, upB]; exact bff hfl1 (by omega)) frep_none⟩
                            | exact ⟨frep_b (v := false) (by simp [*, upB]) (flow_7n (by omega) hb4 hR (Or.inr (by assumption))), by rw [fP_no (by omega) (by omega)]; exact frep_b (v := false) (by simp only [*, upB]; exact bff hfl1 (by omega)) frep_none⟩
                          · skip
                            exfalso; omega
                        · skip
                          exfalso; omega
                    · skip
                      exfalso; omega
            · skip
              have hop := c_3
              obtain ⟨ea, ha4⟩ := okP_a hok (by omega)
              obtain ⟨eb, hb4⟩ := okP_b hok (by omega)
              refine k_aload_n F (pc := 180) 0 rfl dX4_flow_180 rfl ?_
              refine k_iload_n F (pc := 181) 3 rfl dX4_flow_181 rfl ?_
              refine k_topi (nI ((cd (4 * p + 1)).toNatClampNeg)) ea ?_
              refine k_aload_n F (pc := 182) 0 rfl dX4_flow_182 rfl ?_
              refine k_get F (pc := 183) (ref := RX4) (C := RX4) (T := TX4) (N := 15) (ci := 4) 0 5 dX4_flow_183 zin_X4_flow_X4 rfl rfl (by decide) zm_X4_flow_f17 rfl rfl ?_
              refine k_iconst F (pc := 186) ((nI 4)) dX4_flow_186 (by decide) ?_
              refine k_iload_n F (pc := 187) 1 rfl dX4_flow_187 rfl ?_
              refine k_imulN F (pc := 188) dX4_flow_188 ?_
              refine k_iload F (pc := 189) 4 rfl dX4_flow_189 ?_
              refine k_topi (nI ((cd (4 * p + 2)).toNatClampNeg)) eb ?_
              refine k_iaddN F (pc := 191) dX4_flow_191 ?_
              refine k_lald F (pc := 192) 3 dX4_flow_192 rfl (by omega) (by decide) ?_
              refine k_aload_n F (pc := 193) 0 rfl dX4_flow_193 rfl ?_
              refine k_get F (pc := 194) (ref := RX4) (C := RX4) (T := TX4) (N := 15) (ci := 4) 0 6 dX4_flow_194 zin_X4_flow_X4 rfl rfl (by decide) zm_X4_flow_f21 rfl rfl ?_
              refine k_iconst F (pc := 197) ((nI 4)) dX4_flow_197 (by decide) ?_
              refine k_iload_n F (pc := 198) 1 rfl dX4_flow_198 rfl ?_
              refine k_imulN F (pc := 199) dX4_flow_199 ?_
              refine k_iload F (pc := 200) 4 rfl dX4_flow_200 ?_
              refine k_topi (nI ((cd (4 * p + 2)).toNatClampNeg)) eb ?_
              refine k_iaddN F (pc := 202) dX4_flow_202 ?_
              refine k_lald F (pc := 203) 4 dX4_flow_203 rfl (by omega) (by decide) ?_
              refine k_callV F (pc := 204) (C := RX4) (T := TX4) (N := 15) (ci := 4) [.int (nI ((cd (4 * p + 1)).toNatClampNeg)), .long (lo (4 * p + ((cd (4 * p + 2)).toNatClampNeg))), .long (hi (4 * p + ((cd (4 * p + 2)).toNatClampNeg)))] [] 3 (wX4 E h cd n rt sc on lo hi non nlo nhi fl2 tlo2 thi2 le gr) [] [0, 1, 2, 3, 4, 5, 6, 7, 8, 9, 10] [] (m_X4_set l E h cd n rt sc on lo hi non nlo nhi fl2 tlo2 thi2 le gr ((cd (4 * p + 1)).toNatClampNeg) (lo (4 * p + ((cd (4 * p + 2)).toNatClampNeg))) (hi (4 * p + ((cd (4 * p + 2)).toNatClampNeg))) (by omega)) dX4_flow_204 gX4_flow_X4_set rfl (by decide +kernel) rfl ⟨rfl, rfl⟩ (by decide) rfl (Nat.le_of_ble_eq_true rfl) (by decide) rfl rfl rfl rfl (by decide) (by decide) (by decide) ?_
              rintro v_75 w_76 ⟨tlo1_73, thi1_74, rfl, rfl, hs⟩
              refine k_perm (wX4 E h cd n rt sc on lo hi non nlo nhi fl2 tlo1_73 thi1_74 le gr) [0, 1, 2, 3, 4, 5, 6, 7, 8, 9, 10] (by decide) rfl ?_
              show kK g (wX4 E h cd n rt sc on lo hi non nlo nhi fl2 tlo1_73 thi1_74 le gr) [(0, .ref (h 0)), (1, .int (nI p)), (2, .int (cd (4 * p))), (3, .int (cd (4 * p + 1))), (4, .int (cd (4 * p + 2))), (5, .int (nI i))] 0 0 207 []
              have hfin : FRep (fl2 0) tlo1_73 thi1_74 (fN cd p X) := frep_b (v := true) (hfl0.mpr (by omega)) (flow_2 hF0 hop hX hb4 hR hs)
              refine k_iload_n F (pc := 207) 2 rfl dX4_flow_207 rfl ?_
              refine k_iconst F (pc := 208) ((nI 3)) dX4_flow_208 (by decide) ?_
              refine k_icmp_lt F (pc := 209) 237 dX4_flow_209 (by decide) rfl (show (nI 3 : Int32).toInt = 3 by decide) (fun c_77 => ?_) (fun c_77 => ?_)
              · skip
                refine k_iload_n F (pc := 237) 2 rfl dX4_flow_237 rfl ?_
                refine k_bipush F (pc := 238) ((nI 7)) dX4_flow_238 (by decide) ?_
                refine k_icmp_eq F (pc := 240) 249 dX4_flow_240 (by decide) rfl (show (nI 7 : Int32).toInt = 7 by decide) (fun c_78 => ?_) (fun c_78 => ?_)
                · skip
                  exfalso; omega
                · skip
                  refine k_iload_n F (pc := 243) 2 rfl dX4_flow_243 rfl ?_
                  refine k_bipush F (pc := 244) ((nI 8)) dX4_flow_244 (by decide) ?_
                  refine k_icmp_ne F (pc := 246) 290 dX4_flow_246 (by decide) rfl (show (nI 8 : Int32).toInt = 8 by decide) (fun c_79 => ?_) (fun c_79 => ?_)
                  · skip
                    refine k_iload_n F (pc := 290) 2 rfl dX4_flow_290 rfl ?_
                    refine k_bipush F (pc := 291) ((nI 7)) dX4_flow_291 (by decide) ?_
                    refine k_icmp_eq F (pc := 293) 302 dX4_flow_293 (by decide) rfl (show (nI 7 : Int32).toInt = 7 by decide) (fun c_80 => ?_) (fun c_80 => ?_)
                    · skip
                      exfalso; omega
                    · skip
                      refine k_iload_n F (pc := 296) 2 rfl dX4_flow_296 rfl ?_
                      refine k_bipush F (pc := 297) ((nI 11)) dX4_flow_297 (by decide) ?_
                      refine k_icmp_ne F (pc := 299) 313 dX4_flow_299 (by decide) rfl (show (nI 11 : Int32).toInt = 11 by decide) (fun c_81 => ?_) (fun c_81 => ?_)
                      · skip
                        refine k_iload_n F (pc := 313) 2 rfl dX4_flow_313 rfl ?_
                        refine k_bipush F (pc := 314) ((nI 9)) dX4_flow_314 (by decide) ?_
                        refine k_icmp_ne F (pc := 316) 327 dX4_flow_316 (by decide) rfl (show (nI 9 : Int32).toInt = 9 by decide) (fun c_82 => ?_) (fun c_82 => ?_)
                        · skip
                          refine k_vret F Rr (pc := 327) dX4_flow_327 ⟨fl2, tlo1_73, thi1_74, le, gr, rfl, rfl, ?_⟩
                          first
                          | exact hfin
                          | exact ⟨hfin, by rw [fP_no (by omega) (by omega)]; exact frep_b (v := false) (by first | exact bff hfl1 (by omega) | exact hs.2.2.trans (bff hfl1 (by omega)) | (simp only [*, upB]; exact bff hfl1 (by omega))) frep_none⟩
                          | exact ⟨by rw [fN_no (by omega)]; exact frep_b (v := false) (bff hfl0 (by omega)) frep_none, by rw [fP_no (by omega) (by omega)]; exact frep_b (v := false) (bff hfl1 (by omega)) frep_none⟩
                          | exact ⟨by rw [fN_no (by omega)]; exact frep_b (v := false) (bff hfl0 (by omega)) frep_none, by rw [fP_10 (by omega)]; exact frep_b (v := true) (hfl1.mpr (by omega)) hF1⟩
                          | exact ⟨frep_b (v := true) (hfl0.mpr (by omega)) (flow_8s hF0 (by omega) hb4 hR (by assumption) (by assumption)), by rw [fP_no (by omega) (by omega)]; exact frep_b (v := false) (bff hfl1 (by omega)) frep_none⟩
                          | exact ⟨frep_b (v := false) (by simp [*, upB]) (flow_7n (by omega) hb4 hR (Or.inl (by assumption))), by rw [fP_no (by omega) (by omega)]; exact frep_b (v := false) (by simp only [*, upB]; exact bff hfl1 (by omega)) frep_none⟩
                          | exact ⟨frep_b (v := false) (by simp [*, upB]) (flow_7n (by omega) hb4 hR (Or.inr (by assumption))), by rw [fP_no (by omega) (by omega)]; exact frep_b (v := false) (by simp only [*, upB]; exact bff hfl1 (by omega)) frep_none⟩
                        · skip
                          exfalso; omega
                      · skip
                        exfalso; omega
                  · skip
                    exfalso; omega
              · skip
                exfalso; omega
          · skip
            have hop := c_2
            obtain ⟨ea, ha4⟩ := okP_a hok (by omega)
            refine k_aload_n F (pc := 164) 0 rfl dX4_flow_164 rfl ?_
            refine k_iload_n F (pc := 165) 3 rfl dX4_flow_165 rfl ?_
            refine k_topi (nI ((cd (4 * p + 1)).toNatClampNeg)) ea ?_
            refine k_iload F (pc := 166) 4 rfl dX4_flow_166 ?_
            refine k_i2l F (pc := 168) ((cd (4 * p + 2)).toInt64) dX4_flow_168 rfl ?_
            refine k_iload F (pc := 169) 4 rfl dX4_flow_169 ?_
            refine k_i2l F (pc := 171) ((cd (4 * p + 2)).toInt64) dX4_flow_171 rfl ?_
            refine k_callV F (pc := 172) (C := RX4) (T := TX4) (N := 15) (ci := 4) [.int (nI ((cd (4 * p + 1)).toNatClampNeg)), .long ((cd (4 * p + 2)).toInt64), .long ((cd (4 * p + 2)).toInt64)] [] 3 (wX4 E h cd n rt sc on lo hi non nlo nhi fl2 tlo2 thi2 le gr) [] [0, 1, 2, 3, 4, 5, 6, 7, 8, 9, 10] [] (m_X4_set l E h cd n rt sc on lo hi non nlo nhi fl2 tlo2 thi2 le gr ((cd (4 * p + 1)).toNatClampNeg) ((cd (4 * p + 2)).toInt64) ((cd (4 * p + 2)).toInt64) (by omega)) dX4_flow_172 gX4_flow_X4_set rfl (by decide +kernel) rfl ⟨rfl, rfl⟩ (by decide) rfl (Nat.le_of_ble_eq_true rfl) (by decide) rfl rfl rfl rfl (by decide) (by decide) (by decide) ?_
            rintro v_85 w_86 ⟨tlo1_83, thi1_84, rfl, rfl, hs⟩
            refine k_perm (wX4 E h cd n rt sc on lo hi non nlo nhi fl2 tlo1_83 thi1_84 le gr) [0, 1, 2, 3, 4, 5, 6, 7, 8, 9, 10] (by decide) rfl ?_
            show kK g (wX4 E h cd n rt sc on lo hi non nlo nhi fl2 tlo1_83 thi1_84 le gr) [(0, .ref (h 0)), (1, .int (nI p)), (2, .int (cd (4 * p))), (3, .int (cd (4 * p + 1))), (4, .int (cd (4 * p + 2))), (5, .int (nI i))] 0 0 175 []
            have hfin : FRep (fl2 0) tlo1_83 thi1_84 (fN cd p X) := frep_b (v := true) (hfl0.mpr (by omega)) (flow_1 hF0 hop hs)
            refine k_iload_n F (pc := 175) 2 rfl dX4_flow_175 rfl ?_
            refine k_iconst F (pc := 176) ((nI 2)) dX4_flow_176 (by decide) ?_
            refine k_icmp_ne F (pc := 177) 207 dX4_flow_177 (by decide) rfl (show (nI 2 : Int32).toInt = 2 by decide) (fun c_87 => ?_) (fun c_87 => ?_)
            · skip
              refine k_iload_n F (pc := 207) 2 rfl dX4_flow_207 rfl ?_
              refine k_iconst F (pc := 208) ((nI 3)) dX4_flow_208 (by decide) ?_
              refine k_icmp_lt F (pc := 209) 237 dX4_flow_209 (by decide) rfl (show (nI 3 : Int32).toInt = 3 by decide) (fun c_88 => ?_) (fun c_88 => ?_)
              · skip
                refine k_iload_n F (pc := 237) 2 rfl dX4_flow_237 rfl ?_
                refine k_bipush F (pc := 238) ((nI 7)) dX4_flow_238 (by decide) ?_
                refine k_icmp_eq F (pc := 240) 249 dX4_flow_240 (by decide) rfl (show (nI 7 : Int32).toInt = 7 by decide) (fun c_89 => ?_) (fun c_89 => ?_)
                · skip
                  exfalso; omega
                · skip
                  refine k_iload_n F (pc := 243) 2 rfl dX4_flow_243 rfl ?_
                  refine k_bipush F (pc := 244) ((nI 8)) dX4_flow_244 (by decide) ?_
                  refine k_icmp_ne F (pc := 246) 290 dX4_flow_246 (by decide) rfl (show (nI 8 : Int32).toInt = 8 by decide) (fun c_90 => ?_) (fun c_90 => ?_)
                  · skip
                    refine k_iload_n F (pc := 290) 2 rfl dX4_flow_290 rfl ?_
                    refine k_bipush F (pc := 291) ((nI 7)) dX4_flow_291 (by decide) ?_
                    refine k_icmp_eq F (pc := 293) 302 dX4_flow_293 (by decide) rfl (show (nI 7 : Int32).toInt = 7 by decide) (fun c_91 => ?_) (fun c_91 => ?_)
                    · skip
                      exfalso; omega
                    · skip
                      refine k_iload_n F (pc := 296) 2 rfl dX4_flow_296 rfl ?_
                      refine k_bipush F (pc := 297) ((nI 11)) dX4_flow_297 (by decide) ?_
                      refine k_icmp_ne F (pc := 299) 313 dX4_flow_299 (by decide) rfl (show (nI 11 : Int32).toInt = 11 by decide) (fun c_92 => ?_) (fun c_92 => ?_)
                      · skip
                        refine k_iload_n F (pc := 313) 2 rfl dX4_flow_313 rfl ?_
                        refine k_bipush F (pc := 314) ((nI 9)) dX4_flow_314 (by decide) ?_
                        refine k_icmp_ne F (pc := 316) 327 dX4_flow_316 (by decide) rfl (show (nI 9 : Int32).toInt = 9 by decide) (fun c_93 => ?_) (fun c_93 => ?_)
                        · skip
                          refine k_vret F Rr (pc := 327) dX4_flow_327 ⟨fl2, tlo1_83, thi1_84, le, gr, rfl, rfl, ?_⟩
                          first
                          | exact hfin
                          | exact ⟨hfin, by rw [fP_no (by omega) (by omega)]; exact frep_b (v := false) (by first | exact bff hfl1 (by omega) | exact hs.2.2.trans (bff hfl1 (by omega)) | (simp only [*, upB]; exact bff hfl1 (by omega))) frep_none⟩
                          | exact ⟨by rw [fN_no (by omega)]; exact frep_b (v := false) (bff hfl0 (by omega)) frep_none, by rw [fP_no (by omega) (by omega)]; exact frep_b (v := false) (bff hfl1 (by omega)) frep_none⟩
                          | exact ⟨by rw [fN_no (by omega)]; exact frep_b (v := false) (bff hfl0 (by omega)) frep_none, by rw [fP_10 (by omega)]; exact frep_b (v := true) (hfl1.mpr (by omega)) hF1⟩
                          | exact ⟨frep_b (v := true) (hfl0.mpr (by omega)) (flow_8s hF0 (by omega) hb4 hR (by assumption) (by assumption)), by rw [fP_no (by omega) (by omega)]; exact frep_b (v := false) (bff hfl1 (by omega)) frep_none⟩
                          | exact ⟨frep_b (v := false) (by simp [*, upB]) (flow_7n (by omega) hb4 hR (Or.inl (by assumption))), by rw [fP_no (by omega) (by omega)]; exact frep_b (v := false) (by simp only [*, upB]; exact bff hfl1 (by omega)) frep_none⟩
                          | exact ⟨frep_b (v := false) (by simp [*, upB]) (flow_7n (by omega) hb4 hR (Or.inr (by assumption))), by rw [fP_no (by omega) (by omega)]; exact frep_b (v := false) (by simp only [*, upB]; exact bff hfl1 (by omega)) frep_none⟩
                        · skip
                          exfalso; omega
                      · skip
                        exfalso; omega
                  · skip
                    exfalso; omega
              · skip
                exfalso; omega
            · skip
              exfalso; omega
        · skip
          refine k_aload_n F (pc := 85) 0 rfl dX4_flow_85 rfl ?_
          refine k_get F (pc := 86) (ref := RX4) (C := RX4) (T := TX4) (N := 15) (ci := 4) 0 11 dX4_flow_86 zin_X4_flow_X4 rfl rfl (by decide) zm_X4_flow_f36 rfl rfl ?_
          refine k_iload F (pc := 89) 5 rfl dX4_flow_89 ?_
          refine k_aload_n F (pc := 91) 0 rfl dX4_flow_91 rfl ?_
          refine k_get F (pc := 92) (ref := RX4) (C := RX4) (T := TX4) (N := 15) (ci := 4) 0 5 dX4_flow_92 zin_X4_flow_X4 rfl rfl (by decide) zm_X4_flow_f17 rfl rfl ?_
          refine k_iconst F (pc := 95) ((nI 4)) dX4_flow_95 (by decide) ?_
          refine k_iload_n F (pc := 96) 1 rfl dX4_flow_96 rfl ?_
          refine k_imulN F (pc := 97) dX4_flow_97 ?_
          refine k_iload F (pc := 98) 5 rfl dX4_flow_98 ?_
          refine k_iaddN F (pc := 100) dX4_flow_100 ?_
          refine k_lald F (pc := 101) 3 dX4_flow_101 rfl (by omega) (by decide) ?_
          refine k_last F (pc := 102) 9 (fun tlo_94 => (wX4 E h cd n rt sc on lo hi non nlo nhi fl2 tlo_94 thi2 le gr)) dX4_flow_102 rfl (by omega) (by decide) (fun _ => rfl) (fun tlo_94 etlo_94 => ?_)
          refine k_aload_n F (pc := 103) 0 rfl dX4_flow_103 rfl ?_
          refine k_get F (pc := 104) (ref := RX4) (C := RX4) (T := TX4) (N := 15) (ci := 4) 0 12 dX4_flow_104 zin_X4_flow_X4 rfl rfl (by decide) zm_X4_flow_f39 rfl rfl ?_
          refine k_iload F (pc := 107) 5 rfl dX4_flow_107 ?_
          refine k_aload_n F (pc := 109) 0 rfl dX4_flow_109 rfl ?_
          refine k_get F (pc := 110) (ref := RX4) (C := RX4) (T := TX4) (N := 15) (ci := 4) 0 6 dX4_flow_110 zin_X4_flow_X4 rfl rfl (by decide) zm_X4_flow_f21 rfl rfl ?_
          refine k_iconst F (pc := 113) ((nI 4)) dX4_flow_113 (by decide) ?_
          refine k_iload_n F (pc := 114) 1 rfl dX4_flow_114 rfl ?_
          refine k_imulN F (pc := 115) dX4_flow_115 ?_
          refine k_iload F (pc := 116) 5 rfl dX4_flow_116 ?_
          refine k_iaddN F (pc := 118) dX4_flow_118 ?_
          refine k_lald F (pc := 119) 4 dX4_flow_119 rfl (by omega) (by decide) ?_
          refine k_last F (pc := 120) 10 (fun thi_95 => (wX4 E h cd n rt sc on lo hi non nlo nhi fl2 tlo_94 thi_95 le gr)) dX4_flow_120 rfl (by omega) (by decide) (fun _ => rfl) (fun thi_95 ethi_95 => ?_)
          refine k_aload_n F (pc := 121) 0 rfl dX4_flow_121 rfl ?_
          refine k_get F (pc := 122) (ref := RX4) (C := RX4) (T := TX4) (N := 15) (ci := 4) 0 11 dX4_flow_122 zin_X4_flow_X4 rfl rfl (by decide) zm_X4_flow_f36 rfl rfl ?_
          refine k_iconst F (pc := 125) ((nI 4)) dX4_flow_125 (by decide) ?_
          refine k_iload F (pc := 126) 5 rfl dX4_flow_126 ?_
          refine k_iaddN F (pc := 128) dX4_flow_128 ?_
          refine k_aload_n F (pc := 129) 0 rfl dX4_flow_129 rfl ?_
          refine k_get F (pc := 130) (ref := RX4) (C := RX4) (T := TX4) (N := 15) (ci := 4) 0 11 dX4_flow_130 zin_X4_flow_X4 rfl rfl (by decide) zm_X4_flow_f36 rfl rfl ?_
          refine k_iload F (pc := 133) 5 rfl dX4_flow_133 ?_
          refine k_lald F (pc := 135) 9 dX4_flow_135 rfl (by omega) (by decide) ?_
          refine k_last F (pc := 136) 9 (fun tlo_96 => (wX4 E h cd n rt sc on lo hi non nlo nhi fl2 tlo_96 thi_95 le gr)) dX4_flow_136 rfl (by omega) (by decide) (fun _ => rfl) (fun tlo_96 etlo_96 => ?_)
          refine k_aload_n F (pc := 137) 0 rfl dX4_flow_137 rfl ?_
          refine k_get F (pc := 138) (ref := RX4) (C := RX4) (T := TX4) (N := 15) (ci := 4) 0 12 dX4_flow_138 zin_X4_flow_X4 rfl rfl (by decide) zm_X4_flow_f39 rfl rfl ?_
          refine k_iconst F (pc := 141) ((nI 4)) dX4_flow_141 (by decide) ?_
          refine k_iload F (pc := 142) 5 rfl dX4_flow_142 ?_
          refine k_iaddN F (pc := 144) dX4_flow_144 ?_
          refine k_aload_n F (pc := 145) 0 rfl dX4_flow_145 rfl ?_
          refine k_get F (pc := 146) (ref := RX4) (C := RX4) (T := TX4) (N := 15) (ci := 4) 0 12 dX4_flow_146 zin_X4_flow_X4 rfl rfl (by decide) zm_X4_flow_f39 rfl rfl ?_
          refine k_iload F (pc := 149) 5 rfl dX4_flow_149 ?_
          refine k_lald F (pc := 151) 10 dX4_flow_151 rfl (by omega) (by decide) ?_
          refine k_last F (pc := 152) 10 (fun thi_97 => (wX4 E h cd n rt sc on lo hi non nlo nhi fl2 tlo_96 thi_97 le gr)) dX4_flow_152 rfl (by omega) (by decide) (fun _ => rfl) (fun thi_97 ethi_97 => ?_)
          refine k_iinc F (pc := 153) 5 ((nI (i + 1))) [(5, .int (nI (i + 1))), (0, .ref (h 0)), (1, .int (nI p)), (2, .int (cd (4 * p))), (3, .int (cd (4 * p + 1))), (4, .int (cd (4 * p + 2)))] dX4_flow_153 rfl (nI_1 i) (by decide) rfl ?_
          refine k_goto F (pc := 156) 79 dX4_flow_156 (by decide) ?_
          refine k_lv [(0, .ref (h 0)), (1, .int (nI p)), (2, .int (cd (4 * p))), (3, .int (cd (4 * p + 1))), (4, .int (cd (4 * p + 2))), (5, .int (nI (i + 1)))] [1, 2, 3, 4, 5, 0] rfl ?_
          exact ih79 (i + 1) tlo_96 thi_97 (by omega) (by omega) (by exact flow_cp hcp (by omega) (by assumption) (by assumption) (by assumption) (by assumption))
    refine k_lv [(0, .ref (h 0)), (1, .int (nI p)), (2, .int (cd (4 * p))), (3, .int (cd (4 * p + 1))), (4, .int (cd (4 * p + 2))), (5, .int (nI 0))] [1, 2, 3, 4, 5, 0] rfl ?_
    exact L79 (4 - 0 + 1) 0 tlo thi (Nat.lt_succ_self _) (by omega) (by intro v hv; omega)
  refine k_aload_n F (pc := 32) 3 rfl dX4_flow_32 rfl ?_
  refine k_get F (pc := 33) (ref := RX4) (C := RX4) (T := TX4) (N := 15) (ci := 4) 0 10 dX4_flow_33 zin_X4_flow_X4 rfl rfl (by decide) zm_X4_flow_f33 rfl rfl ?_
  refine k_iconst F (pc := 36) ((nI 0)) dX4_flow_36 (by decide) ?_
  refine k_iload_n F (pc := 37) 2 rfl dX4_flow_37 rfl ?_
  refine k_if_eq F (pc := 38) 51 dX4_flow_38 (by decide) rfl (fun c_98 => ?_) (fun c_98 => ?_)
  · skip
    refine k_iconst F (pc := 51) ((nI 0)) dX4_flow_51 (by decide) ?_
    refine k_zast F (pc := 52) false 8 (fun fl_99 => (wX4 E h cd n rt sc on lo hi non nlo nhi fl_99 tlo thi le gr)) dX4_flow_52 rfl rfl (by omega) (by decide) (fun _ => rfl) (fun fl_99 efl_99 => ?_)
    refine k_aload_n F (pc := 53) 3 rfl dX4_flow_53 rfl ?_
    refine k_get F (pc := 54) (ref := RX4) (C := RX4) (T := TX4) (N := 15) (ci := 4) 0 10 dX4_flow_54 zin_X4_flow_X4 rfl rfl (by decide) zm_X4_flow_f33 rfl rfl ?_
    refine k_iconst F (pc := 57) ((nI 1)) dX4_flow_57 (by decide) ?_
    refine k_iload_n F (pc := 58) 2 rfl dX4_flow_58 rfl ?_
    refine k_bipush F (pc := 59) ((nI 9)) dX4_flow_59 (by decide) ?_
    refine k_icmp_eq F (pc := 61) 70 dX4_flow_61 (by decide) rfl (show (nI 9 : Int32).toInt = 9 by decide) (fun c_100 => ?_) (fun c_100 => ?_)
    · skip
      exfalso; omega
    · skip
      refine k_iload_n F (pc := 64) 2 rfl dX4_flow_64 rfl ?_
      refine k_bipush F (pc := 65) ((nI 10)) dX4_flow_65 (by decide) ?_
      refine k_icmp_ne F (pc := 67) 74 dX4_flow_67 (by decide) rfl (show (nI 10 : Int32).toInt = 10 by decide) (fun c_101 => ?_) (fun c_101 => ?_)
      · skip
        refine k_iconst F (pc := 74) ((nI 0)) dX4_flow_74 (by decide) ?_
        refine k_zast F (pc := 75) false 8 (fun fl_102 => (wX4 E h cd n rt sc on lo hi non nlo nhi fl_102 tlo thi le gr)) dX4_flow_75 rfl rfl (by omega) (by decide) (fun _ => rfl) (fun fl_102 efl_102 => ?_)
        refine k_lv [(0, .ref (h 0)), (1, .int (nI p)), (2, .int (cd (4 * p))), (3, .int (cd (4 * p + 1))), (4, .int (cd (4 * p + 2)))] [3, 4, 2, 1, 0] rfl ?_
        exact J76 fl_102 (by simp [*, upB] <;> omega) (by simp [*, upB] <;> omega)
      · skip
        exfalso; omega
  · skip
    refine k_iload_n F (pc := 41) 2 rfl dX4_flow_41 rfl ?_
    refine k_bipush F (pc := 42) ((nI 10)) dX4_flow_42 (by decide) ?_
    refine k_icmp_eq F (pc := 44) 51 dX4_flow_44 (by decide) rfl (show (nI 10 : Int32).toInt = 10 by decide) (fun c_103 => ?_) (fun c_103 => ?_)
    · skip
      refine k_iconst F (pc := 51) ((nI 0)) dX4_flow_51 (by decide) ?_
      refine k_zast F (pc := 52) false 8 (fun fl_104 => (wX4 E h cd n rt sc on lo hi non nlo nhi fl_104 tlo thi le gr)) dX4_flow_52 rfl rfl (by omega) (by decide) (fun _ => rfl) (fun fl_104 efl_104 => ?_)
      refine k_aload_n F (pc := 53) 3 rfl dX4_flow_53 rfl ?_
      refine k_get F (pc := 54) (ref := RX4) (C := RX4) (T := TX4) (N := 15) (ci := 4) 0 10 dX4_flow_54 zin_X4_flow_X4 rfl rfl (by decide) zm_X4_flow_f33 rfl rfl ?_
      refine k_iconst F (pc := 57) ((nI 1)) dX4_flow_57 (by decide) ?_
      refine k_iload_n F (pc := 58) 2 rfl dX4_flow_58 rfl ?_
      refine k_bipush F (pc := 59) ((nI 9)) dX4_flow_59 (by decide) ?_
      refine k_icmp_eq F (pc := 61) 70 dX4_flow_61 (by decide) rfl (show (nI 9 : Int32).toInt = 9 by decide) (fun c_105 => ?_) (fun c_105 => ?_)
      · skip
        exfalso; omega
      · skip
        refine k_iload_n F (pc := 64) 2 rfl dX4_flow_64 rfl ?_
        refine k_bipush F (pc := 65) ((nI 10)) dX4_flow_65 (by decide) ?_
        refine k_icmp_ne F (pc := 67) 74 dX4_flow_67 (by decide) rfl (show (nI 10 : Int32).toInt = 10 by decide) (fun c_106 => ?_) (fun c_106 => ?_)
        · skip
          exfalso; omega
        · skip
          refine k_iconst F (pc := 70) ((nI 1)) dX4_flow_70 (by decide) ?_
          refine k_goto F (pc := 71) 75 dX4_flow_71 (by decide) ?_
          refine k_zast F (pc := 75) true 8 (fun fl_107 => (wX4 E h cd n rt sc on lo hi non nlo nhi fl_107 tlo thi le gr)) dX4_flow_75 rfl rfl (by omega) (by decide) (fun _ => rfl) (fun fl_107 efl_107 => ?_)
          refine k_lv [(0, .ref (h 0)), (1, .int (nI p)), (2, .int (cd (4 * p))), (3, .int (cd (4 * p + 1))), (4, .int (cd (4 * p + 2)))] [3, 4, 2, 1, 0] rfl ?_
          exact J76 fl_107 (by simp [*, upB] <;> omega) (by simp [*, upB] <;> omega)
    · skip
      refine k_iconst F (pc := 47) ((nI 1)) dX4_flow_47 (by decide) ?_
      refine k_goto F (pc := 48) 52 dX4_flow_48 (by decide) ?_
      refine k_zast F (pc := 52) true 8 (fun fl_108 => (wX4 E h cd n rt sc on lo hi non nlo nhi fl_108 tlo thi le gr)) dX4_flow_52 rfl rfl (by omega) (by decide) (fun _ => rfl) (fun fl_108 efl_108 => ?_)
      refine k_aload_n F (pc := 53) 3 rfl dX4_flow_53 rfl ?_
      refine k_get F (pc := 54) (ref := RX4) (C := RX4) (T := TX4) (N := 15) (ci := 4) 0 10 dX4_flow_54 zin_X4_flow_X4 rfl rfl (by decide) zm_X4_flow_f33 rfl rfl ?_
      refine k_iconst F (pc := 57) ((nI 1)) dX4_flow_57 (by decide) ?_
      refine k_iload_n F (pc := 58) 2 rfl dX4_flow_58 rfl ?_
      refine k_bipush F (pc := 59) ((nI 9)) dX4_flow_59 (by decide) ?_
      refine k_icmp_eq F (pc := 61) 70 dX4_flow_61 (by decide) rfl (show (nI 9 : Int32).toInt = 9 by decide) (fun c_109 => ?_) (fun c_109 => ?_)
      · skip
        refine k_iconst F (pc := 70) ((nI 1)) dX4_flow_70 (by decide) ?_
        refine k_goto F (pc := 71) 75 dX4_flow_71 (by decide) ?_
        refine k_zast F (pc := 75) true 8 (fun fl_110 => (wX4 E h cd n rt sc on lo hi non nlo nhi fl_110 tlo thi le gr)) dX4_flow_75 rfl rfl (by omega) (by decide) (fun _ => rfl) (fun fl_110 efl_110 => ?_)
        refine k_lv [(0, .ref (h 0)), (1, .int (nI p)), (2, .int (cd (4 * p))), (3, .int (cd (4 * p + 1))), (4, .int (cd (4 * p + 2)))] [3, 4, 2, 1, 0] rfl ?_
        exact J76 fl_110 (by simp [*, upB] <;> omega) (by simp [*, upB] <;> omega)
      · skip
        refine k_iload_n F (pc := 64) 2 rfl dX4_flow_64 rfl ?_
        refine k_bipush F (pc := 65) ((nI 10)) dX4_flow_65 (by decide) ?_
        refine k_icmp_ne F (pc := 67) 74 dX4_flow_67 (by decide) rfl (show (nI 10 : Int32).toInt = 10 by decide) (fun c_111 => ?_) (fun c_111 => ?_)
        · skip
          refine k_iconst F (pc := 74) ((nI 0)) dX4_flow_74 (by decide) ?_
          refine k_zast F (pc := 75) false 8 (fun fl_112 => (wX4 E h cd n rt sc on lo hi non nlo nhi fl_112 tlo thi le gr)) dX4_flow_75 rfl rfl (by omega) (by decide) (fun _ => rfl) (fun fl_112 efl_112 => ?_)
          refine k_lv [(0, .ref (h 0)), (1, .int (nI p)), (2, .int (cd (4 * p))), (3, .int (cd (4 * p + 1))), (4, .int (cd (4 * p + 2)))] [3, 4, 2, 1, 0] rfl ?_
          exact J76 fl_112 (by simp [*, upB] <;> omega) (by simp [*, upB] <;> omega)
        · skip
          exfalso; omega
theorem zm_X4_arrive_f13 : (Cond.fieldLink RX4 13 RX4 "on" "[Z" : Cond) ∈ wsX4_arrive := by decide +kernel
theorem zin_X4_arrive_X4 : ∀ w ∈ u_ws RX4 TX4 15, w ∈ wsX4_arrive := by decide +kernel
theorem zm_X4_arrive_f36 : (Cond.fieldLink RX4 36 RX4 "tlo" "[J" : Cond) ∈ wsX4_arrive := by decide +kernel
theorem zm_X4_arrive_f17 : (Cond.fieldLink RX4 17 RX4 "lo" "[J" : Cond) ∈ wsX4_arrive := by decide +kernel
theorem zm_X4_arrive_f39 : (Cond.fieldLink RX4 39 RX4 "thi" "[J" : Cond) ∈ wsX4_arrive := by decide +kernel
theorem zm_X4_arrive_f21 : (Cond.fieldLink RX4 21 RX4 "hi" "[J" : Cond) ∈ wsX4_arrive := by decide +kernel
theorem zm_X4_arrive_c68 : (Cond.constantLong RX4 68 (2147483647) : Cond) ∈ wsX4_arrive := by decide +kernel
theorem zm_X4_arrive_c66 : (Cond.constantLong RX4 66 (-2147483648) : Cond) ∈ wsX4_arrive := by decide +kernel
set_option maxHeartbeats 4000000 in
set_option maxRecDepth 100000 in
theorem m_X4_arrive (l : Launch) (E : kE) (h : Nat → Nat) (cd : Nat → Int32) (n : Nat) (rt : Nat) (sc : Bool) (on : Nat → Bool) (lo : Nat → Int64) (hi : Nat → Int64) (non : Nat → Bool) (nlo : Nat → Int64) (nhi : Nat → Int64) (fl : Nat → Bool) (tlo : Nat → Int64) (thi : Nat → Int64) (le : Int64) (gr : Int64) (p : Nat) (q : Nat) (s : Nat) (S : ST) (T : IV × IV) (hp : p < 24) (hq : q < 24) (hs : s < 2) (hR : Rep on lo hi S) (hT : ∀ v, v < 4 → tlo (4 * s + v) = T.1 v ∧ thi (4 * s + v) = T.2 v) : kC l yX4_arrive wsX4_arrive ({ frames := 0, cells := 0, slots := 0, locals := 0 } : Room) E [.ref (h 0), .int (nI p), .int (nI q), .int (nI s)] (wX4 E h cd n rt sc on lo hi non nlo nhi fl tlo thi le gr) 0 0 (fun v_ w_ => ∃ (on1 : Nat → Bool) (lo1 : Nat → Int64) (hi1 : Nat → Int64) (r : Bool), v_ = some (.int (bI r)) ∧ w_ = (wX4 E h cd n rt sc on1 lo1 hi1 non nlo nhi fl tlo thi le gr) ∧ (Rep on1 lo1 hi1 (arr S q (some T) (decide (q ≤ p))).2 ∧ r = (arr S q (some T) (decide (q ≤ p))).1)) := by
  refine kC.enter cX4_arrive 6 (some .boolean) [(0, .ref (h 0)), (1, .int (nI p)), (2, .int (nI q)), (3, .int (nI s))] (by decide) rfl (Nat.le_of_ble_eq_true rfl) rfl ?_
  intro g F Rr
  refine k_aload_n F (pc := 0) 0 rfl dX4_arrive_0 rfl ?_
  refine k_get F (pc := 1) (ref := RX4) (C := RX4) (T := TX4) (N := 15) (ci := 4) 0 4 dX4_arrive_1 zin_X4_arrive_X4 rfl rfl (by decide) zm_X4_arrive_f13 rfl rfl ?_
  refine k_iload_n F (pc := 4) 2 rfl dX4_arrive_4 rfl ?_
  refine k_zald F (pc := 5) 2 dX4_arrive_5 rfl (by omega) (by decide) ?_
  refine k_if_neB F (pc := 6) 13 dX4_arrive_6 (by decide) (fun c_1 => ?_) (fun c_1 => ?_)
  · skip
    refine k_iconst F (pc := 13) ((nI 0)) dX4_arrive_13 (by decide) ?_
    refine k_istore F (pc := 14) [(4, .int (nI 0)), (0, .ref (h 0)), (1, .int (nI p)), (2, .int (nI q)), (3, .int (nI s))] dX4_arrive_14 (by decide) rfl ?_
    refine k_iconst F (pc := 16) ((nI 0)) dX4_arrive_16 (by decide) ?_
    refine k_istore F (pc := 17) [(5, .int (nI 0)), (4, .int (nI 0)), (0, .ref (h 0)), (1, .int (nI p)), (2, .int (nI q)), (3, .int (nI s))] dX4_arrive_17 (by decide) rfl ?_
    have L19 : ∀ (d_ : Nat) (i : Nat) (ch : Bool) (lo2 : Nat → Int64) (hi2 : Nat → Int64), 4 - i < d_ → (i ≤ 4) → (∀ j, lo2 j = if 4 * q ≤ j ∧ j < 4 * q + i then nloB (on q) (decide (q ≤ p)) (lo j) (tlo (4 * s + (j - 4 * q))) else lo j) → (∀ j, hi2 j = if 4 * q ≤ j ∧ j < 4 * q + i then nhiB (on q) (decide (q ≤ p)) (hi j) (thi (4 * s + (j - 4 * q))) else hi j) → (ch = chB (on q) (fun v => lo (4 * q + v)) (fun v => hi (4 * q + v)) (fun v => tlo (4 * s + v)) (fun v => thi (4 * s + v)) i) → kK g (wX4 E h cd n rt sc on lo2 hi2 non nlo nhi fl tlo thi le gr) [(0, .ref (h 0)), (1, .int (nI p)), (2, .int (nI q)), (3, .int (nI s)), (4, .int (bI ch)), (5, .int (nI i))] 0 0 19 [] := by
      intro d_
      induction d_ with
      | zero => intro i ch lo2 hi2 hm; exact absurd hm (Nat.not_lt_zero _)
      | succ d_ ih19 =>
        intro i ch lo2 hi2 hm19 hi4 hlo hhi hch
        refine k_iload F (pc := 19) 5 rfl dX4_arrive_19 ?_
        refine k_iconst F (pc := 21) ((nI 4)) dX4_arrive_21 (by decide) ?_
        refine k_icmp_ge F (pc := 22) 211 dX4_arrive_22 (by decide) (nI_toInt (by omega)) (show (nI 4 : Int32).toInt = 4 by decide) (fun c_2 => ?_) (fun c_2 => ?_)
        · skip
          refine k_aload_n F (pc := 211) 0 rfl dX4_arrive_211 rfl ?_
          refine k_get F (pc := 212) (ref := RX4) (C := RX4) (T := TX4) (N := 15) (ci := 4) 0 4 dX4_arrive_212 zin_X4_arrive_X4 rfl rfl (by decide) zm_X4_arrive_f13 rfl rfl ?_
          refine k_iload_n F (pc := 215) 2 rfl dX4_arrive_215 rfl ?_
          refine k_iconst F (pc := 216) ((nI 1)) dX4_arrive_216 (by decide) ?_
          refine k_zast F (pc := 217) true 2 (fun on_3 => (wX4 E h cd n rt sc on_3 lo2 hi2 non nlo nhi fl tlo thi le gr)) dX4_arrive_217 rfl rfl (by omega) (by decide) (fun _ => rfl) (fun on_3 eon_3 => ?_)
          refine k_iload F (pc := 218) 4 rfl dX4_arrive_218 ?_
          refine k_zret F Rr (pc := 220) ch dX4_arrive_220 rfl ⟨on_3, lo2, hi2, ch, rfl, rfl, ?_⟩
          rw [show i = 4 by omega] at hlo hhi hch
          exact ⟨arv_rep (tl := fun v => tlo (4 * s + v)) (th := fun v => thi (4 * s + v)) hR hq hT hlo hhi (by assumption), arv_ch hR hq hT hch⟩
        · skip
          refine k_aload_n F (pc := 25) 0 rfl dX4_arrive_25 rfl ?_
          refine k_get F (pc := 26) (ref := RX4) (C := RX4) (T := TX4) (N := 15) (ci := 4) 0 4 dX4_arrive_26 zin_X4_arrive_X4 rfl rfl (by decide) zm_X4_arrive_f13 rfl rfl ?_
          refine k_iload_n F (pc := 29) 2 rfl dX4_arrive_29 rfl ?_
          refine k_zald F (pc := 30) 2 dX4_arrive_30 rfl (by omega) (by decide) ?_
          refine k_if_neB F (pc := 31) 81 dX4_arrive_31 (by decide) (fun c_4 => ?_) (fun c_4 => ?_)
          · skip
            refine k_aload_n F (pc := 81) 0 rfl dX4_arrive_81 rfl ?_
            refine k_get F (pc := 82) (ref := RX4) (C := RX4) (T := TX4) (N := 15) (ci := 4) 0 11 dX4_arrive_82 zin_X4_arrive_X4 rfl rfl (by decide) zm_X4_arrive_f36 rfl rfl ?_
            refine k_iconst F (pc := 85) ((nI 4)) dX4_arrive_85 (by decide) ?_
            refine k_iload_n F (pc := 86) 3 rfl dX4_arrive_86 rfl ?_
            refine k_imulN F (pc := 87) dX4_arrive_87 ?_
            refine k_iload F (pc := 88) 5 rfl dX4_arrive_88 ?_
            refine k_iaddN F (pc := 90) dX4_arrive_90 ?_
            refine k_lald F (pc := 91) 9 dX4_arrive_91 rfl (by omega) (by decide) ?_
            refine k_aload_n F (pc := 92) 0 rfl dX4_arrive_92 rfl ?_
            refine k_get F (pc := 93) (ref := RX4) (C := RX4) (T := TX4) (N := 15) (ci := 4) 0 5 dX4_arrive_93 zin_X4_arrive_X4 rfl rfl (by decide) zm_X4_arrive_f17 rfl rfl ?_
            refine k_iconst F (pc := 96) ((nI 4)) dX4_arrive_96 (by decide) ?_
            refine k_iload_n F (pc := 97) 2 rfl dX4_arrive_97 rfl ?_
            refine k_imulN F (pc := 98) dX4_arrive_98 ?_
            refine k_iload F (pc := 99) 5 rfl dX4_arrive_99 ?_
            refine k_iaddN F (pc := 101) dX4_arrive_101 ?_
            refine k_lald F (pc := 102) 3 dX4_arrive_102 rfl (by omega) (by decide) ?_
            refine k_lcmp_ge F (pc := 103) 143 dX4_arrive_103 dX4_arrive_104 (by decide) (fun c_5 => ?_) (fun c_5 => ?_)
            · skip
              refine k_aload_n F (pc := 143) 0 rfl dX4_arrive_143 rfl ?_
              refine k_get F (pc := 144) (ref := RX4) (C := RX4) (T := TX4) (N := 15) (ci := 4) 0 12 dX4_arrive_144 zin_X4_arrive_X4 rfl rfl (by decide) zm_X4_arrive_f39 rfl rfl ?_
              refine k_iconst F (pc := 147) ((nI 4)) dX4_arrive_147 (by decide) ?_
              refine k_iload_n F (pc := 148) 3 rfl dX4_arrive_148 rfl ?_
              refine k_imulN F (pc := 149) dX4_arrive_149 ?_
              refine k_iload F (pc := 150) 5 rfl dX4_arrive_150 ?_
              refine k_iaddN F (pc := 152) dX4_arrive_152 ?_
              refine k_lald F (pc := 153) 10 dX4_arrive_153 rfl (by omega) (by decide) ?_
              refine k_aload_n F (pc := 154) 0 rfl dX4_arrive_154 rfl ?_
              refine k_get F (pc := 155) (ref := RX4) (C := RX4) (T := TX4) (N := 15) (ci := 4) 0 6 dX4_arrive_155 zin_X4_arrive_X4 rfl rfl (by decide) zm_X4_arrive_f21 rfl rfl ?_
              refine k_iconst F (pc := 158) ((nI 4)) dX4_arrive_158 (by decide) ?_
              refine k_iload_n F (pc := 159) 2 rfl dX4_arrive_159 rfl ?_
              refine k_imulN F (pc := 160) dX4_arrive_160 ?_
              refine k_iload F (pc := 161) 5 rfl dX4_arrive_161 ?_
              refine k_iaddN F (pc := 163) dX4_arrive_163 ?_
              refine k_lald F (pc := 164) 4 dX4_arrive_164 rfl (by omega) (by decide) ?_
              refine k_lcmp_le F (pc := 165) 205 dX4_arrive_165 dX4_arrive_166 (by decide) (fun c_6 => ?_) (fun c_6 => ?_)
              · skip
                refine k_iinc F (pc := 205) 5 ((nI (i + 1))) [(5, .int (nI (i + 1))), (0, .ref (h 0)), (1, .int (nI p)), (2, .int (nI q)), (3, .int (nI s)), (4, .int (bI ch))] dX4_arrive_205 rfl (nI_1 i) (by decide) rfl ?_
                refine k_goto F (pc := 208) 19 dX4_arrive_208 (by decide) ?_
                refine k_lv [(0, .ref (h 0)), (1, .int (nI p)), (2, .int (nI q)), (3, .int (nI s)), (4, .int (bI ch)), (5, .int (nI (i + 1)))] [1, 2, 3, 4, 5, 0] rfl ?_
                exact ih19 (i + 1) ch lo2 hi2 (by omega) (by omega) (by exact take_step (u := nloB (on q) (decide (q ≤ p))) (lf := fun v => tlo (4 * s + v)) hlo (by first | exact nloB_n (by assumption) (by assumption) | exact nloB_k (by assumption) (by assumption) | exact nloB_t (by assumption) (by assumption) (decide_eq_true (by omega)) (by assumption) | exact nloB_f (by assumption) (by assumption) (decide_eq_false (by omega)) (by assumption))) (by exact take_step (u := nhiB (on q) (decide (q ≤ p))) (lf := fun v => thi (4 * s + v)) hhi (by first | exact nhiB_n (by assumption) (by assumption) | exact nhiB_k (by assumption) (by assumption) | exact nhiB_t (by assumption) (by assumption) (decide_eq_true (by omega)) (by assumption) | exact nhiB_f (by assumption) (by assumption) (decide_eq_false (by omega)) (by assumption))) (by first | exact chB_off (by assumption) hch | exact chB_step (w := decide (q ≤ p)) (tl := fun v => tlo (4 * s + v)) (th := fun v => thi (4 * s + v)) hlo hhi (by first | exact chB_ff (by assumption) (by assumption) | exact chB_tt (Or.inl (by assumption)) | exact chB_tt (Or.inr (by assumption))) (by assumption) hch)
              · skip
                refine k_aload_n F (pc := 169) 0 rfl dX4_arrive_169 rfl ?_
                refine k_get F (pc := 170) (ref := RX4) (C := RX4) (T := TX4) (N := 15) (ci := 4) 0 6 dX4_arrive_170 zin_X4_arrive_X4 rfl rfl (by decide) zm_X4_arrive_f21 rfl rfl ?_
                refine k_iconst F (pc := 173) ((nI 4)) dX4_arrive_173 (by decide) ?_
                refine k_iload_n F (pc := 174) 2 rfl dX4_arrive_174 rfl ?_
                refine k_imulN F (pc := 175) dX4_arrive_175 ?_
                refine k_iload F (pc := 176) 5 rfl dX4_arrive_176 ?_
                refine k_iaddN F (pc := 178) dX4_arrive_178 ?_
                refine k_iload_n F (pc := 179) 2 rfl dX4_arrive_179 rfl ?_
                refine k_iload_n F (pc := 180) 1 rfl dX4_arrive_180 rfl ?_
                refine k_icmp_gt F (pc := 181) 190 dX4_arrive_181 (by decide) (nI_toInt (by omega)) (nI_toInt (by omega)) (fun c_7 => ?_) (fun c_7 => ?_)
                · skip
                  refine k_aload_n F (pc := 190) 0 rfl dX4_arrive_190 rfl ?_
                  refine k_get F (pc := 191) (ref := RX4) (C := RX4) (T := TX4) (N := 15) (ci := 4) 0 12 dX4_arrive_191 zin_X4_arrive_X4 rfl rfl (by decide) zm_X4_arrive_f39 rfl rfl ?_
                  refine k_iconst F (pc := 194) ((nI 4)) dX4_arrive_194 (by decide) ?_
                  refine k_iload_n F (pc := 195) 3 rfl dX4_arrive_195 rfl ?_
                  refine k_imulN F (pc := 196) dX4_arrive_196 ?_
                  refine k_iload F (pc := 197) 5 rfl dX4_arrive_197 ?_
                  refine k_iaddN F (pc := 199) dX4_arrive_199 ?_
                  refine k_lald F (pc := 200) 10 dX4_arrive_200 rfl (by omega) (by decide) ?_
                  refine k_last F (pc := 201) 4 (fun hi_8 => (wX4 E h cd n rt sc on lo2 hi_8 non nlo nhi fl tlo thi le gr)) dX4_arrive_201 rfl (by omega) (by decide) (fun _ => rfl) (fun hi_8 ehi_8 => ?_)
                  refine k_iconst F (pc := 202) ((nI 1)) dX4_arrive_202 (by decide) ?_
                  refine k_istore F (pc := 203) [(4, .int (nI 1)), (0, .ref (h 0)), (1, .int (nI p)), (2, .int (nI q)), (3, .int (nI s)), (5, .int (nI i))] dX4_arrive_203 (by decide) rfl ?_
                  refine k_iinc F (pc := 205) 5 ((nI (i + 1))) [(5, .int (nI (i + 1))), (4, .int (nI 1)), (0, .ref (h 0)), (1, .int (nI p)), (2, .int (nI q)), (3, .int (nI s))] dX4_arrive_205 rfl (nI_1 i) (by decide) rfl ?_
                  refine k_goto F (pc := 208) 19 dX4_arrive_208 (by decide) ?_
                  refine k_lv [(0, .ref (h 0)), (1, .int (nI p)), (2, .int (nI q)), (3, .int (nI s)), (4, .int (nI 1)), (5, .int (nI (i + 1)))] [2, 3, 4, 5, 1, 0] rfl ?_
                  exact ih19 (i + 1) true lo2 hi_8 (by omega) (by omega) (by exact take_step (u := nloB (on q) (decide (q ≤ p))) (lf := fun v => tlo (4 * s + v)) hlo (by first | exact nloB_n (by assumption) (by assumption) | exact nloB_k (by assumption) (by assumption) | exact nloB_t (by assumption) (by assumption) (decide_eq_true (by omega)) (by assumption) | exact nloB_f (by assumption) (by assumption) (decide_eq_false (by omega)) (by assumption))) (by exact take_step (u := nhiB (on q) (decide (q ≤ p))) (lf := fun v => thi (4 * s + v)) hhi (by first | exact nhiB_n (by assumption) (by assumption) | exact nhiB_k (by assumption) (by assumption) | exact nhiB_t (by assumption) (by assumption) (decide_eq_true (by omega)) (by assumption) | exact nhiB_f (by assumption) (by assumption) (decide_eq_false (by omega)) (by assumption))) (by first | exact chB_off (by assumption) hch | exact chB_step (w := decide (q ≤ p)) (tl := fun v => tlo (4 * s + v)) (th := fun v => thi (4 * s + v)) hlo hhi (by first | exact chB_ff (by assumption) (by assumption) | exact chB_tt (Or.inl (by assumption)) | exact chB_tt (Or.inr (by assumption))) (by assumption) hch)
                · skip
                  refine k_ldc2 F (pc := 184) (2147483647) dX4_arrive_184 zm_X4_arrive_c68 ?_
                  refine k_goto F (pc := 187) 201 dX4_arrive_187 (by decide) ?_
                  refine k_last F (pc := 201) 4 (fun hi_9 => (wX4 E h cd n rt sc on lo2 hi_9 non nlo nhi fl tlo thi le gr)) dX4_arrive_201 rfl (by omega) (by decide) (fun _ => rfl) (fun hi_9 ehi_9 => ?_)
                  refine k_iconst F (pc := 202) ((nI 1)) dX4_arrive_202 (by decide) ?_
                  refine k_istore F (pc := 203) [(4, .int (nI 1)), (0, .ref (h 0)), (1, .int (nI p)), (2, .int (nI q)), (3, .int (nI s)), (5, .int (nI i))] dX4_arrive_203 (by decide) rfl ?_
                  refine k_iinc F (pc := 205) 5 ((nI (i + 1))) [(5, .int (nI (i + 1))), (4, .int (nI 1)), (0, .ref (h 0)), (1, .int (nI p)), (2, .int (nI q)), (3, .int (nI s))] dX4_arrive_205 rfl (nI_1 i) (by decide) rfl ?_
                  refine k_goto F (pc := 208) 19 dX4_arrive_208 (by decide) ?_
                  refine k_lv [(0, .ref (h 0)), (1, .int (nI p)), (2, .int (nI q)), (3, .int (nI s)), (4, .int (nI 1)), (5, .int (nI (i + 1)))] [2, 3, 4, 5, 1, 0] rfl ?_
                  exact ih19 (i + 1) true lo2 hi_9 (by omega) (by omega) (by exact take_step (u := nloB (on q) (decide (q ≤ p))) (lf := fun v => tlo (4 * s + v)) hlo (by first | exact nloB_n (by assumption) (by assumption) | exact nloB_k (by assumption) (by assumption) | exact nloB_t (by assumption) (by assumption) (decide_eq_true (by omega)) (by assumption) | exact nloB_f (by assumption) (by assumption) (decide_eq_false (by omega)) (by assumption))) (by exact take_step (u := nhiB (on q) (decide (q ≤ p))) (lf := fun v => thi (4 * s + v)) hhi (by first | exact nhiB_n (by assumption) (by assumption) | exact nhiB_k (by assumption) (by assumption) | exact nhiB_t (by assumption) (by assumption) (decide_eq_true (by omega)) (by assumption) | exact nhiB_f (by assumption) (by assumption) (decide_eq_false (by omega)) (by assumption))) (by first | exact chB_off (by assumption) hch | exact chB_step (w := decide (q ≤ p)) (tl := fun v => tlo (4 * s + v)) (th := fun v => thi (4 * s + v)) hlo hhi (by first | exact chB_ff (by assumption) (by assumption) | exact chB_tt (Or.inl (by assumption)) | exact chB_tt (Or.inr (by assumption))) (by assumption) hch)
            · skip
              refine k_aload_n F (pc := 107) 0 rfl dX4_arrive_107 rfl ?_
              refine k_get F (pc := 108) (ref := RX4) (C := RX4) (T := TX4) (N := 15) (ci := 4) 0 5 dX4_arrive_108 zin_X4_arrive_X4 rfl rfl (by decide) zm_X4_arrive_f17 rfl rfl ?_
              refine k_iconst F (pc := 111) ((nI 4)) dX4_arrive_111 (by decide) ?_
              refine k_iload_n F (pc := 112) 2 rfl dX4_arrive_112 rfl ?_
              refine k_imulN F (pc := 113) dX4_arrive_113 ?_
              refine k_iload F (pc := 114) 5 rfl dX4_arrive_114 ?_
              refine k_iaddN F (pc := 116) dX4_arrive_116 ?_
              refine k_iload_n F (pc := 117) 2 rfl dX4_arrive_117 rfl ?_
              refine k_iload_n F (pc := 118) 1 rfl dX4_arrive_118 rfl ?_
              refine k_icmp_gt F (pc := 119) 128 dX4_arrive_119 (by decide) (nI_toInt (by omega)) (nI_toInt (by omega)) (fun c_10 => ?_) (fun c_10 => ?_)
              · skip
                refine k_aload_n F (pc := 128) 0 rfl dX4_arrive_128 rfl ?_
                refine k_get F (pc := 129) (ref := RX4) (C := RX4) (T := TX4) (N := 15) (ci := 4) 0 11 dX4_arrive_129 zin_X4_arrive_X4 rfl rfl (by decide) zm_X4_arrive_f36 rfl rfl ?_
                refine k_iconst F (pc := 132) ((nI 4)) dX4_arrive_132 (by decide) ?_
                refine k_iload_n F (pc := 133) 3 rfl dX4_arrive_133 rfl ?_
                refine k_imulN F (pc := 134) dX4_arrive_134 ?_
                refine k_iload F (pc := 135) 5 rfl dX4_arrive_135 ?_
                refine k_iaddN F (pc := 137) dX4_arrive_137 ?_
                refine k_lald F (pc := 138) 9 dX4_arrive_138 rfl (by omega) (by decide) ?_
                refine k_last F (pc := 139) 3 (fun lo_11 => (wX4 E h cd n rt sc on lo_11 hi2 non nlo nhi fl tlo thi le gr)) dX4_arrive_139 rfl (by omega) (by decide) (fun _ => rfl) (fun lo_11 elo_11 => ?_)
                refine k_iconst F (pc := 140) ((nI 1)) dX4_arrive_140 (by decide) ?_
                refine k_istore F (pc := 141) [(4, .int (nI 1)), (0, .ref (h 0)), (1, .int (nI p)), (2, .int (nI q)), (3, .int (nI s)), (5, .int (nI i))] dX4_arrive_141 (by decide) rfl ?_
                refine k_aload_n F (pc := 143) 1 rfl dX4_arrive_143 rfl ?_
                refine k_get F (pc := 144) (ref := RX4) (C := RX4) (T := TX4) (N := 15) (ci := 4) 0 12 dX4_arrive_144 zin_X4_arrive_X4 rfl rfl (by decide) zm_X4_arrive_f39 rfl rfl ?_
                refine k_iconst F (pc := 147) ((nI 4)) dX4_arrive_147 (by decide) ?_
                refine k_iload_n F (pc := 148) 4 rfl dX4_arrive_148 rfl ?_
                refine k_imulN F (pc := 149) dX4_arrive_149 ?_
                refine k_iload F (pc := 150) 5 rfl dX4_arrive_150 ?_
                refine k_iaddN F (pc := 152) dX4_arrive_152 ?_
                refine k_lald F (pc := 153) 10 dX4_arrive_153 rfl (by omega) (by decide) ?_
                refine k_aload_n F (pc := 154) 1 rfl dX4_arrive_154 rfl ?_
                refine k_get F (pc := 155) (ref := RX4) (C := RX4) (T := TX4) (N := 15) (ci := 4) 0 6 dX4_arrive_155 zin_X4_arrive_X4 rfl rfl (by decide) zm_X4_arrive_f21 rfl rfl ?_
                refine k_iconst F (pc := 158) ((nI 4)) dX4_arrive_158 (by decide) ?_
                refine k_iload_n F (pc := 159) 3 rfl dX4_arrive_159 rfl ?_
                refine k_imulN F (pc := 160) dX4_arrive_160 ?_
                refine k_iload F (pc := 161) 5 rfl dX4_arrive_161 ?_
                refine k_iaddN F (pc := 163) dX4_arrive_163 ?_
                refine k_lald F (pc := 164) 4 dX4_arrive_164 rfl (by omega) (by decide) ?_
                refine k_lcmp_le F (pc := 165) 205 dX4_arrive_165 dX4_arrive_166 (by decide) (fun c_12 => ?_) (fun c_12 => ?_)
                · skip
                  refine k_iinc F (pc := 205) 5 ((nI (i + 1))) [(5, .int (nI (i + 1))), (4, .int (nI 1)), (0, .ref (h 0)), (1, .int (nI p)), (2, .int (nI q)), (3, .int (nI s))] dX4_arrive_205 rfl (nI_1 i) (by decide) rfl ?_
                  refine k_goto F (pc := 208) 19 dX4_arrive_208 (by decide) ?_
                  refine k_lv [(0, .ref (h 0)), (1, .int (nI p)), (2, .int (nI q)), (3, .int (nI s)), (4, .int (nI 1)), (5, .int (nI (i + 1)))] [2, 3, 4, 5, 1, 0] rfl ?_
                  exact ih19 (i + 1) true lo_11 hi2 (by omega) (by omega) (by exact take_step (u := nloB (on q) (decide (q ≤ p))) (lf := fun v => tlo (4 * s + v)) hlo (by first | exact nloB_n (by assumption) (by assumption) | exact nloB_k (by assumption) (by assumption) | exact nloB_t (by assumption) (by assumption) (decide_eq_true (by omega)) (by assumption) | exact nloB_f (by assumption) (by assumption) (decide_eq_false (by omega)) (by assumption))) (by exact take_step (u := nhiB (on q) (decide (q ≤ p))) (lf := fun v => thi (4 * s + v)) hhi (by first | exact nhiB_n (by assumption) (by assumption) | exact nhiB_k (by assumption) (by assumption) | exact nhiB_t (by assumption) (by assumption) (decide_eq_true (by omega)) (by assumption) | exact nhiB_f (by assumption) (by assumption) (decide_eq_false (by omega)) (by assumption))) (by first | exact chB_off (by assumption) hch | exact chB_step (w := decide (q ≤ p)) (tl := fun v => tlo (4 * s + v)) (th := fun v => thi (4 * s + v)) hlo hhi (by first | exact chB_ff (by assumption) (by assumption) | exact chB_tt (Or.inl (by assumption)) | exact chB_tt (Or.inr (by assumption))) (by assumption) hch)
                · skip
                  refine k_aload_n F (pc := 169) 1 rfl dX4_arrive_169 rfl ?_
                  refine k_get F (pc := 170) (ref := RX4) (C := RX4) (T := TX4) (N := 15) (ci := 4) 0 6 dX4_arrive_170 zin_X4_arrive_X4 rfl rfl (by decide) zm_X4_arrive_f21 rfl rfl ?_
                  refine k_iconst F (pc := 173) ((nI 4)) dX4_arrive_173 (by decide) ?_
                  refine k_iload_n F (pc := 174) 3 rfl dX4_arrive_174 rfl ?_
                  refine k_imulN F (pc := 175) dX4_arrive_175 ?_
                  refine k_iload F (pc := 176) 5 rfl dX4_arrive_176 ?_
                  refine k_iaddN F (pc := 178) dX4_arrive_178 ?_
                  refine k_iload_n F (pc := 179) 3 rfl dX4_arrive_179 rfl ?_
                  refine k_iload_n F (pc := 180) 2 rfl dX4_arrive_180 rfl ?_
                  refine k_icmp_gt F (pc := 181) 190 dX4_arrive_181 (by decide) (nI_toInt (by omega)) (nI_toInt (by omega)) (fun c_13 => ?_) (fun c_13 => ?_)
                  · skip
                    refine k_aload_n F (pc := 190) 1 rfl dX4_arrive_190 rfl ?_
                    refine k_get F (pc := 191) (ref := RX4) (C := RX4) (T := TX4) (N := 15) (ci := 4) 0 12 dX4_arrive_191 zin_X4_arrive_X4 rfl rfl (by decide) zm_X4_arrive_f39 rfl rfl ?_
                    refine k_iconst F (pc := 194) ((nI 4)) dX4_arrive_194 (by decide) ?_
                    refine k_iload_n F (pc := 195) 4 rfl dX4_arrive_195 rfl ?_
                    refine k_imulN F (pc := 196) dX4_arrive_196 ?_
                    refine k_iload F (pc := 197) 5 rfl dX4_arrive_197 ?_
                    refine k_iaddN F (pc := 199) dX4_arrive_199 ?_
                    refine k_lald F (pc := 200) 10 dX4_arrive_200 rfl (by omega) (by decide) ?_
                    refine k_last F (pc := 201) 4 (fun hi_14 => (wX4 E h cd n rt sc on lo_11 hi_14 non nlo nhi fl tlo thi le gr)) dX4_arrive_201 rfl (by omega) (by decide) (fun _ => rfl) (fun hi_14 ehi_14 => ?_)
                    refine k_iconst F (pc := 202) ((nI 1)) dX4_arrive_202 (by decide) ?_
                    refine k_istore F (pc := 203) [(4, .int (nI 1)), (0, .ref (h 0)), (1, .int (nI p)), (2, .int (nI q)), (3, .int (nI s)), (5, .int (nI i))] dX4_arrive_203 (by decide) rfl ?_
                    refine k_iinc F (pc := 205) 5 ((nI (i + 1))) [(5, .int (nI (i + 1))), (4, .int (nI 1)), (0, .ref (h 0)), (1, .int (nI p)), (2, .int (nI q)), (3, .int (nI s))] dX4_arrive_205 rfl (nI_1 i) (by decide) rfl ?_
                    refine k_goto F (pc := 208) 19 dX4_arrive_208 (by decide) ?_
                    refine k_lv [(0, .ref (h 0)), (1, .int (nI p)), (2, .int (nI q)), (3, .int (nI s)), (4, .int (nI 1)), (5, .int (nI (i + 1)))] [2, 3, 4, 5, 1, 0] rfl ?_
                    exact ih19 (i + 1) true lo_11 hi_14 (by omega) (by omega) (by exact take_step (u := nloB (on q) (decide (q ≤ p))) (lf := fun v => tlo (4 * s + v)) hlo (by first | exact nloB_n (by assumption) (by assumption) | exact nloB_k (by assumption) (by assumption) | exact nloB_t (by assumption) (by assumption) (decide_eq_true (by omega)) (by assumption) | exact nloB_f (by assumption) (by assumption) (decide_eq_false (by omega)) (by assumption))) (by exact take_step (u := nhiB (on q) (decide (q ≤ p))) (lf := fun v => thi (4 * s + v)) hhi (by first | exact nhiB_n (by assumption) (by assumption) | exact nhiB_k (by assumption) (by assumption) | exact nhiB_t (by assumption) (by assumption) (decide_eq_true (by omega)) (by assumption) | exact nhiB_f (by assumption) (by assumption) (decide_eq_false (by omega)) (by assumption))) (by first | exact chB_off (by assumption) hch | exact chB_step (w := decide (q ≤ p)) (tl := fun v => tlo (4 * s + v)) (th := fun v => thi (4 * s + v)) hlo hhi (by first | exact chB_ff (by assumption) (by assumption) | exact chB_tt (Or.inl (by assumption)) | exact chB_tt (Or.inr (by assumption))) (by assumption) hch)
                  · skip
                    refine k_ldc2 F (pc := 184) (2147483647) dX4_arrive_184 zm_X4_arrive_c68 ?_
                    refine k_goto F (pc := 187) 201 dX4_arrive_187 (by decide) ?_
                    refine k_last F (pc := 201) 4 (fun hi_15 => (wX4 E h cd n rt sc on lo_11 hi_15 non nlo nhi fl tlo thi le gr)) dX4_arrive_201 rfl (by omega) (by decide) (fun _ => rfl) (fun hi_15 ehi_15 => ?_)
                    refine k_iconst F (pc := 202) ((nI 1)) dX4_arrive_202 (by decide) ?_
                    refine k_istore F (pc := 203) [(4, .int (nI 1)), (0, .ref (h 0)), (1, .int (nI p)), (2, .int (nI q)), (3, .int (nI s)), (5, .int (nI i))] dX4_arrive_203 (by decide) rfl ?_
                    refine k_iinc F (pc := 205) 5 ((nI (i + 1))) [(5, .int (nI (i + 1))), (4, .int (nI 1)), (0, .ref (h 0)), (1, .int (nI p)), (2, .int (nI q)), (3, .int (nI s))] dX4_arrive_205 rfl (nI_1 i) (by decide) rfl ?_
                    refine k_goto F (pc := 208) 19 dX4_arrive_208 (by decide) ?_
                    refine k_lv [(0, .ref (h 0)), (1, .int (nI p)), (2, .int (nI q)), (3, .int (nI s)), (4, .int (nI 1)), (5, .int (nI (i + 1)))] [2, 3, 4, 5, 1, 0] rfl ?_
                    exact ih19 (i + 1) true lo_11 hi_15 (by omega) (by omega) (by exact take_step (u := nloB (on q) (decide (q ≤ p))) (lf := fun v => tlo (4 * s + v)) hlo (by first | exact nloB_n (by assumption) (by assumption) | exact nloB_k (by assumption) (by assumption) | exact nloB_t (by assumption) (by assumption) (decide_eq_true (by omega)) (by assumption) | exact nloB_f (by assumption) (by assumption) (decide_eq_false (by omega)) (by assumption))) (by exact take_step (u := nhiB (on q) (decide (q ≤ p))) (lf := fun v => thi (4 * s + v)) hhi (by first | exact nhiB_n (by assumption) (by assumption) | exact nhiB_k (by assumption) (by assumption) | exact nhiB_t (by assumption) (by assumption) (decide_eq_true (by omega)) (by assumption) | exact nhiB_f (by assumption) (by assumption) (decide_eq_false (by omega)) (by assumption))) (by first | exact chB_off (by assumption) hch | exact chB_step (w := decide (q ≤ p)) (tl := fun v => tlo (4 * s + v)) (th := fun v => thi (4 * s + v)) hlo hhi (by first | exact chB_ff (by assumption) (by assumption) | exact chB_tt (Or.inl (by assumption)) | exact chB_tt (Or.inr (by assumption))) (by assumption) hch)
              · skip
                refine k_ldc2 F (pc := 122) (-2147483648) dX4_arrive_122 zm_X4_arrive_c66 ?_
                refine k_goto F (pc := 125) 139 dX4_arrive_125 (by decide) ?_
                refine k_last F (pc := 139) 3 (fun lo_16 => (wX4 E h cd n rt sc on lo_16 hi2 non nlo nhi fl tlo thi le gr)) dX4_arrive_139 rfl (by omega) (by decide) (fun _ => rfl) (fun lo_16 elo_16 => ?_)
                refine k_iconst F (pc := 140) ((nI 1)) dX4_arrive_140 (by decide) ?_
                refine k_istore F (pc := 141) [(4, .int (nI 1)), (0, .ref (h 0)), (1, .int (nI p)), (2, .int (nI q)), (3, .int (nI s)), (5, .int (nI i))] dX4_arrive_141 (by decide) rfl ?_
                refine k_aload_n F (pc := 143) 1 rfl dX4_arrive_143 rfl ?_
                refine k_get F (pc := 144) (ref := RX4) (C := RX4) (T := TX4) (N := 15) (ci := 4) 0 12 dX4_arrive_144 zin_X4_arrive_X4 rfl rfl (by decide) zm_X4_arrive_f39 rfl rfl ?_
                refine k_iconst F (pc := 147) ((nI 4)) dX4_arrive_147 (by decide) ?_
                refine k_iload_n F (pc := 148) 4 rfl dX4_arrive_148 rfl ?_
                refine k_imulN F (pc := 149) dX4_arrive_149 ?_
                refine k_iload F (pc := 150) 5 rfl dX4_arrive_150 ?_
                refine k_iaddN F (pc := 152) dX4_arrive_152 ?_
                refine k_lald F (pc := 153) 10 dX4_arrive_153 rfl (by omega) (by decide) ?_
                refine k_aload_n F (pc := 154) 1 rfl dX4_arrive_154 rfl ?_
                refine k_get F (pc := 155) (ref := RX4) (C := RX4) (T := TX4) (N := 15) (ci := 4) 0 6 dX4_arrive_155 zin_X4_arrive_X4 rfl rfl (by decide) zm_X4_arrive_f21 rfl rfl ?_
                refine k_iconst F (pc := 158) ((nI 4)) dX4_arrive_158 (by decide) ?_
                refine k_iload_n F (pc := 159) 3 rfl dX4_arrive_159 rfl ?_
                refine k_imulN F (pc := 160) dX4_arrive_160 ?_
                refine k_iload F (pc := 161) 5 rfl dX4_arrive_161 ?_
                refine k_iaddN F (pc := 163) dX4_arrive_163 ?_
                refine k_lald F (pc := 164) 4 dX4_arrive_164 rfl (by omega) (by decide) ?_
                refine k_lcmp_le F (pc := 165) 205 dX4_arrive_165 dX4_arrive_166 (by decide) (fun c_17 => ?_) (fun c_17 => ?_)
                · skip
                  refine k_iinc F (pc := 205) 5 ((nI (i + 1))) [(5, .int (nI (i + 1))), (4, .int (nI 1)), (0, .ref (h 0)), (1, .int (nI p)), (2, .int (nI q)), (3, .int (nI s))] dX4_arrive_205 rfl (nI_1 i) (by decide) rfl ?_
                  refine k_goto F (pc := 208) 19 dX4_arrive_208 (by decide) ?_
                  refine k_lv [(0, .ref (h 0)), (1, .int (nI p)), (2, .int (nI q)), (3, .int (nI s)), (4, .int (nI 1)), (5, .int (nI (i + 1)))] [2, 3, 4, 5, 1, 0] rfl ?_
                  exact ih19 (i + 1) true lo_16 hi2 (by omega) (by omega) (by exact take_step (u := nloB (on q) (decide (q ≤ p))) (lf := fun v => tlo (4 * s + v)) hlo (by first | exact nloB_n (by assumption) (by assumption) | exact nloB_k (by assumption) (by assumption) | exact nloB_t (by assumption) (by assumption) (decide_eq_true (by omega)) (by assumption) | exact nloB_f (by assumption) (by assumption) (decide_eq_false (by omega)) (by assumption))) (by exact take_step (u := nhiB (on q) (decide (q ≤ p))) (lf := fun v => thi (4 * s + v)) hhi (by first | exact nhiB_n (by assumption) (by assumption) | exact nhiB_k (by assumption) (by assumption) | exact nhiB_t (by assumption) (by assumption) (decide_eq_true (by omega)) (by assumption) | exact nhiB_f (by assumption) (by assumption) (decide_eq_false (by omega)) (by assumption))) (by first | exact chB_off (by assumption) hch | exact chB_step (w := decide (q ≤ p)) (tl := fun v => tlo (4 * s + v)) (th := fun v => thi (4 * s + v)) hlo hhi (by first | exact chB_ff (by assumption) (by assumption) | exact chB_tt (Or.inl (by assumption)) | exact chB_tt (Or.inr (by assumption))) (by assumption) hch)
                · skip
                  refine k_aload_n F (pc := 169) 1 rfl dX4_arrive_169 rfl ?_
                  refine k_get F (pc := 170) (ref := RX4) (C := RX4) (T := TX4) (N := 15) (ci := 4) 0 6 dX4_arrive_170 zin_X4_arrive_X4 rfl rfl (by decide) zm_X4_arrive_f21 rfl rfl ?_
                  refine k_iconst F (pc := 173) ((nI 4)) dX4_arrive_173 (by decide) ?_
                  refine k_iload_n F (pc := 174) 3 rfl dX4_arrive_174 rfl ?_
                  refine k_imulN F (pc := 175) dX4_arrive_175 ?_
                  refine k_iload F (pc := 176) 5 rfl dX4_arrive_176 ?_
                  refine k_iaddN F (pc := 178) dX4_arrive_178 ?_
                  refine k_iload_n F (pc := 179) 3 rfl dX4_arrive_179 rfl ?_
                  refine k_iload_n F (pc := 180) 2 rfl dX4_arrive_180 rfl ?_
                  refine k_icmp_gt F (pc := 181) 190 dX4_arrive_181 (by decide) (nI_toInt (by omega)) (nI_toInt (by omega)) (fun c_18 => ?_) (fun c_18 => ?_)
                  · skip
                    refine k_aload_n F (pc := 190) 1 rfl dX4_arrive_190 rfl ?_
                    refine k_get F (pc := 191) (ref := RX4) (C := RX4) (T := TX4) (N := 15) (ci := 4) 0 12 dX4_arrive_191 zin_X4_arrive_X4 rfl rfl (by decide) zm_X4_arrive_f39 rfl rfl ?_
                    refine k_iconst F (pc := 194) ((nI 4)) dX4_arrive_194 (by decide) ?_
                    refine k_iload_n F (pc := 195) 4 rfl dX4_arrive_195 rfl ?_
                    refine k_imulN F (pc := 196) dX4_arrive_196 ?_
                    refine k_iload F (pc := 197) 5 rfl dX4_arrive_197 ?_
                    refine k_iaddN F (pc := 199) dX4_arrive_199 ?_
                    refine k_lald F (pc := 200) 10 dX4_arrive_200 rfl (by omega) (by decide) ?_
                    refine k_last F (pc := 201) 4 (fun hi_19 => (wX4 E h cd n rt sc on lo_16 hi_19 non nlo nhi fl tlo thi le gr)) dX4_arrive_201 rfl (by omega) (by decide) (fun _ => rfl) (fun hi_19 ehi_19 => ?_)
                    refine k_iconst F (pc := 202) ((nI 1)) dX4_arrive_202 (by decide) ?_
                    refine k_istore F (pc := 203) [(4, .int (nI 1)), (0, .ref (h 0)), (1, .int (nI p)), (2, .int (nI q)), (3, .int (nI s)), (5, .int (nI i))] dX4_arrive_203 (by decide) rfl ?_
                    refine k_iinc F (pc := 205) 5 ((nI (i + 1))) [(5, .int (nI (i + 1))), (4, .int (nI 1)), (0, .ref (h 0)), (1, .int (nI p)), (2, .int (nI q)), (3, .int (nI s))] dX4_arrive_205 rfl (nI_1 i) (by decide) rfl ?_
                    refine k_goto F (pc := 208) 19 dX4_arrive_208 (by decide) ?_
                    refine k_lv [(0, .ref (h 0)), (1, .int (nI p)), (2, .int (nI q)), (3, .int (nI s)), (4, .int (nI 1)), (5, .int (nI (i + 1)))] [2, 3, 4, 5, 1, 0] rfl ?_
                    exact ih19 (i + 1) true lo_16 hi_19 (by omega) (by omega) (by exact take_step (u := nloB (on q) (decide (q ≤ p))) (lf := fun v => tlo (4 * s + v)) hlo (by first | exact nloB_n (by assumption) (by assumption) | exact nloB_k (by assumption) (by assumption) | exact nloB_t (by assumption) (by assumption) (decide_eq_true (by omega)) (by assumption) | exact nloB_f (by assumption) (by assumption) (decide_eq_false (by omega)) (by assumption))) (by exact take_step (u := nhiB (on q) (decide (q ≤ p))) (lf := fun v => thi (4 * s + v)) hhi (by first | exact nhiB_n (by assumption) (by assumption) | exact nhiB_k (by assumption) (by assumption) | exact nhiB_t (by assumption) (by assumption) (decide_eq_true (by omega)) (by assumption) | exact nhiB_f (by assumption) (by assumption) (decide_eq_false (by omega)) (by assumption))) (by first | exact chB_off (by assumption) hch | exact chB_step (w := decide (q ≤ p)) (tl := fun v => tlo (4 * s + v)) (th := fun v => thi (4 * s + v)) hlo hhi (by first | exact chB_ff (by assumption) (by assumption) | exact chB_tt (Or.inl (by assumption)) | exact chB_tt (Or.inr (by assumption))) (by assumption) hch)
                  · skip
                    refine k_ldc2 F (pc := 184) (2147483647) dX4_arrive_184 zm_X4_arrive_c68 ?_
                    refine k_goto F (pc := 187) 201 dX4_arrive_187 (by decide) ?_
                    refine k_last F (pc := 201) 4 (fun hi_20 => (wX4 E h cd n rt sc on lo_16 hi_20 non nlo nhi fl tlo thi le gr)) dX4_arrive_201 rfl (by omega) (by decide) (fun _ => rfl) (fun hi_20 ehi_20 => ?_)
                    refine k_iconst F (pc := 202) ((nI 1)) dX4_arrive_202 (by decide) ?_
                    refine k_istore F (pc := 203) [(4, .int (nI 1)), (0, .ref (h 0)), (1, .int (nI p)), (2, .int (nI q)), (3, .int (nI s)), (5, .int (nI i))] dX4_arrive_203 (by decide) rfl ?_
                    refine k_iinc F (pc := 205) 5 ((nI (i + 1))) [(5, .int (nI (i + 1))), (4, .int (nI 1)), (0, .ref (h 0)), (1, .int (nI p)), (2, .int (nI q)), (3, .int (nI s))] dX4_arrive_205 rfl (nI_1 i) (by decide) rfl ?_
                    refine k_goto F (pc := 208) 19 dX4_arrive_208 (by decide) ?_
                    refine k_lv [(0, .ref (h 0)), (1, .int (nI p)), (2, .int (nI q)), (3, .int (nI s)), (4, .int (nI 1)), (5, .int (nI (i + 1)))] [2, 3, 4, 5, 1, 0] rfl ?_
                    exact ih19 (i + 1) true lo_16 hi_20 (by omega) (by omega) (by exact take_step (u := nloB (on q) (decide (q ≤ p))) (lf := fun v => tlo (4 * s + v)) hlo (by first | exact nloB_n (by assumption) (by assumption) | exact nloB_k (by assumption) (by assumption) | exact nloB_t (by assumption) (by assumption) (decide_eq_true (by omega)) (by assumption) | exact nloB_f (by assumption) (by assumption) (decide_eq_false (by omega)) (by assumption))) (by exact take_step (u := nhiB (on q) (decide (q ≤ p))) (lf := fun v => thi (4 * s + v)) hhi (by first | exact nhiB_n (by assumption) (by assumption) | exact nhiB_k (by assumption) (by assumption) | exact nhiB_t (by assumption) (by assumption) (decide_eq_true (by omega)) (by assumption) | exact nhiB_f (by assumption) (by assumption) (decide_eq_false (by omega)) (by assumption))) (by first | exact chB_off (by assumption) hch | exact chB_step (w := decide (q ≤ p)) (tl := fun v => tlo (4 * s + v)) (th := fun v => thi (4 * s + v)) hlo hhi (by first | exact chB_ff (by assumption) (by assumption) | exact chB_tt (Or.inl (by assumption)) | exact chB_tt (Or.inr (by assumption))) (by assumption) hch)
          · skip
            exact absurd (c_1.symm.trans c_4) (by decide)
    refine k_lv [(0, .ref (h 0)), (1, .int (nI p)), (2, .int (nI q)), (3, .int (nI s)), (4, .int (nI 0)), (5, .int (nI 0))] [2, 3, 4, 5, 1, 0] rfl ?_
    exact L19 (4 - 0 + 1) 0 false lo hi (Nat.lt_succ_self _) (by omega) (by intro j; rw [if_neg (by omega)]) (by intro j; rw [if_neg (by omega)]) (by simp only [chB, chgTo, *, if_true, Bool.false_eq_true, if_false])
  · skip
    refine k_iconst F (pc := 9) ((nI 1)) dX4_arrive_9 (by decide) ?_
    refine k_goto F (pc := 10) 14 dX4_arrive_10 (by decide) ?_
    refine k_istore F (pc := 14) [(4, .int (nI 1)), (0, .ref (h 0)), (1, .int (nI p)), (2, .int (nI q)), (3, .int (nI s))] dX4_arrive_14 (by decide) rfl ?_
    refine k_iconst F (pc := 16) ((nI 0)) dX4_arrive_16 (by decide) ?_
    refine k_istore F (pc := 17) [(5, .int (nI 0)), (4, .int (nI 1)), (0, .ref (h 0)), (1, .int (nI p)), (2, .int (nI q)), (3, .int (nI s))] dX4_arrive_17 (by decide) rfl ?_
    have L19 : ∀ (d_ : Nat) (i : Nat) (ch : Bool) (lo2 : Nat → Int64) (hi2 : Nat → Int64), 4 - i < d_ → (i ≤ 4) → (∀ j, lo2 j = if 4 * q ≤ j ∧ j < 4 * q + i then nloB (on q) (decide (q ≤ p)) (lo j) (tlo (4 * s + (j - 4 * q))) else lo j) → (∀ j, hi2 j = if 4 * q ≤ j ∧ j < 4 * q + i then nhiB (on q) (decide (q ≤ p)) (hi j) (thi (4 * s + (j - 4 * q))) else hi j) → (ch = chB (on q) (fun v => lo (4 * q + v)) (fun v => hi (4 * q + v)) (fun v => tlo (4 * s + v)) (fun v => thi (4 * s + v)) i) → kK g (wX4 E h cd n rt sc on lo2 hi2 non nlo nhi fl tlo thi le gr) [(0, .ref (h 0)), (1, .int (nI p)), (2, .int (nI q)), (3, .int (nI s)), (4, .int (bI ch)), (5, .int (nI i))] 0 0 19 [] := by
      intro d_
      induction d_ with
      | zero => intro i ch lo2 hi2 hm; exact absurd hm (Nat.not_lt_zero _)
      | succ d_ ih19 =>
        intro i ch lo2 hi2 hm19 hi4 hlo hhi hch
        refine k_iload F (pc := 19) 5 rfl dX4_arrive_19 ?_
        refine k_iconst F (pc := 21) ((nI 4)) dX4_arrive_21 (by decide) ?_
        refine k_icmp_ge F (pc := 22) 211 dX4_arrive_22 (by decide) (nI_toInt (by omega)) (show (nI 4 : Int32).toInt = 4 by decide) (fun c_21 => ?_) (fun c_21 => ?_)
        · skip
          refine k_aload_n F (pc := 211) 0 rfl dX4_arrive_211 rfl ?_
          refine k_get F (pc := 212) (ref := RX4) (C := RX4) (T := TX4) (N := 15) (ci := 4) 0 4 dX4_arrive_212 zin_X4_arrive_X4 rfl rfl (by decide) zm_X4_arrive_f13 rfl rfl ?_
          refine k_iload_n F (pc := 215) 2 rfl dX4_arrive_215 rfl ?_
          refine k_iconst F (pc := 216) ((nI 1)) dX4_arrive_216 (by decide) ?_
          refine k_zast F (pc := 217) true 2 (fun on_22 => (wX4 E h cd n rt sc on_22 lo2 hi2 non nlo nhi fl tlo thi le gr)) dX4_arrive_217 rfl rfl (by omega) (by decide) (fun _ => rfl) (fun on_22 eon_22 => ?_)
          refine k_iload F (pc := 218) 4 rfl dX4_arrive_218 ?_
          refine k_zret F Rr (pc := 220) ch dX4_arrive_220 rfl ⟨on_22, lo2, hi2, ch, rfl, rfl, ?_⟩
          rw [show i = 4 by omega] at hlo hhi hch
          exact ⟨arv_rep (tl := fun v => tlo (4 * s + v)) (th := fun v => thi (4 * s + v)) hR hq hT hlo hhi (by assumption), arv_ch hR hq hT hch⟩
        · skip
          refine k_aload_n F (pc := 25) 0 rfl dX4_arrive_25 rfl ?_
          refine k_get F (pc := 26) (ref := RX4) (C := RX4) (T := TX4) (N := 15) (ci := 4) 0 4 dX4_arrive_26 zin_X4_arrive_X4 rfl rfl (by decide) zm_X4_arrive_f13 rfl rfl ?_
          refine k_iload_n F (pc := 29) 2 rfl dX4_arrive_29 rfl ?_
          refine k_zald F (pc := 30) 2 dX4_arrive_30 rfl (by omega) (by decide) ?_
          refine k_if_neB F (pc := 31) 81 dX4_arrive_31 (by decide) (fun c_23 => ?_) (fun c_23 => ?_)
          · skip
            exact absurd (c_1.symm.trans c_23) (by decide)
          · skip
            refine k_aload_n F (pc := 34) 0 rfl dX4_arrive_34 rfl ?_
            refine k_get F (pc := 35) (ref := RX4) (C := RX4) (T := TX4) (N := 15) (ci := 4) 0 5 dX4_arrive_35 zin_X4_arrive_X4 rfl rfl (by decide) zm_X4_arrive_f17 rfl rfl ?_
            refine k_iconst F (pc := 38) ((nI 4)) dX4_arrive_38 (by decide) ?_
            refine k_iload_n F (pc := 39) 2 rfl dX4_arrive_39 rfl ?_
            refine k_imulN F (pc := 40) dX4_arrive_40 ?_
            refine k_iload F (pc := 41) 5 rfl dX4_arrive_41 ?_
            refine k_iaddN F (pc := 43) dX4_arrive_43 ?_
            refine k_aload_n F (pc := 44) 0 rfl dX4_arrive_44 rfl ?_
            refine k_get F (pc := 45) (ref := RX4) (C := RX4) (T := TX4) (N := 15) (ci := 4) 0 11 dX4_arrive_45 zin_X4_arrive_X4 rfl rfl (by decide) zm_X4_arrive_f36 rfl rfl ?_
            refine k_iconst F (pc := 48) ((nI 4)) dX4_arrive_48 (by decide) ?_
            refine k_iload_n F (pc := 49) 3 rfl dX4_arrive_49 rfl ?_
            refine k_imulN F (pc := 50) dX4_arrive_50 ?_
            refine k_iload F (pc := 51) 5 rfl dX4_arrive_51 ?_
            refine k_iaddN F (pc := 53) dX4_arrive_53 ?_
            refine k_lald F (pc := 54) 9 dX4_arrive_54 rfl (by omega) (by decide) ?_
            refine k_last F (pc := 55) 3 (fun lo_24 => (wX4 E h cd n rt sc on lo_24 hi2 non nlo nhi fl tlo thi le gr)) dX4_arrive_55 rfl (by omega) (by decide) (fun _ => rfl) (fun lo_24 elo_24 => ?_)
            refine k_aload_n F (pc := 56) 0 rfl dX4_arrive_56 rfl ?_
            refine k_get F (pc := 57) (ref := RX4) (C := RX4) (T := TX4) (N := 15) (ci := 4) 0 6 dX4_arrive_57 zin_X4_arrive_X4 rfl rfl (by decide) zm_X4_arrive_f21 rfl rfl ?_
            refine k_iconst F (pc := 60) ((nI 4)) dX4_arrive_60 (by decide) ?_
            refine k_iload_n F (pc := 61) 2 rfl dX4_arrive_61 rfl ?_
            refine k_imulN F (pc := 62) dX4_arrive_62 ?_
            refine k_iload F (pc := 63) 5 rfl dX4_arrive_63 ?_
            refine k_iaddN F (pc := 65) dX4_arrive_65 ?_
            refine k_aload_n F (pc := 66) 0 rfl dX4_arrive_66 rfl ?_
            refine k_get F (pc := 67) (ref := RX4) (C := RX4) (T := TX4) (N := 15) (ci := 4) 0 12 dX4_arrive_67 zin_X4_arrive_X4 rfl rfl (by decide) zm_X4_arrive_f39 rfl rfl ?_
            refine k_iconst F (pc := 70) ((nI 4)) dX4_arrive_70 (by decide) ?_
            refine k_iload_n F (pc := 71) 3 rfl dX4_arrive_71 rfl ?_
            refine k_imulN F (pc := 72) dX4_arrive_72 ?_
            refine k_iload F (pc := 73) 5 rfl dX4_arrive_73 ?_
            refine k_iaddN F (pc := 75) dX4_arrive_75 ?_
            refine k_lald F (pc := 76) 10 dX4_arrive_76 rfl (by omega) (by decide) ?_
            refine k_last F (pc := 77) 4 (fun hi_25 => (wX4 E h cd n rt sc on lo_24 hi_25 non nlo nhi fl tlo thi le gr)) dX4_arrive_77 rfl (by omega) (by decide) (fun _ => rfl) (fun hi_25 ehi_25 => ?_)
            refine k_goto F (pc := 78) 205 dX4_arrive_78 (by decide) ?_
            refine k_iinc F (pc := 205) 5 ((nI (i + 1))) [(5, .int (nI (i + 1))), (0, .ref (h 0)), (1, .int (nI p)), (2, .int (nI q)), (3, .int (nI s)), (4, .int (bI ch))] dX4_arrive_205 rfl (nI_1 i) (by decide) rfl ?_
            refine k_goto F (pc := 208) 19 dX4_arrive_208 (by decide) ?_
            refine k_lv [(0, .ref (h 0)), (1, .int (nI p)), (2, .int (nI q)), (3, .int (nI s)), (4, .int (bI ch)), (5, .int (nI (i + 1)))] [1, 2, 3, 4, 5, 0] rfl ?_
            exact ih19 (i + 1) ch lo_24 hi_25 (by omega) (by omega) (by exact take_step (u := nloB (on q) (decide (q ≤ p))) (lf := fun v => tlo (4 * s + v)) hlo (by first | exact nloB_n (by assumption) (by assumption) | exact nloB_k (by assumption) (by assumption) | exact nloB_t (by assumption) (by assumption) (decide_eq_true (by omega)) (by assumption) | exact nloB_f (by assumption) (by assumption) (decide_eq_false (by omega)) (by assumption))) (by exact take_step (u := nhiB (on q) (decide (q ≤ p))) (lf := fun v => thi (4 * s + v)) hhi (by first | exact nhiB_n (by assumption) (by assumption) | exact nhiB_k (by assumption) (by assumption) | exact nhiB_t (by assumption) (by assumption) (decide_eq_true (by omega)) (by assumption) | exact nhiB_f (by assumption) (by assumption) (decide_eq_false (by omega)) (by assumption))) (by first | exact chB_off (by assumption) hch | exact chB_step (w := decide (q ≤ p)) (tl := fun v => tlo (4 * s + v)) (th := fun v => thi (4 * s + v)) hlo hhi (by first | exact chB_ff (by assumption) (by assumption) | exact chB_tt (Or.inl (by assumption)) | exact chB_tt (Or.inr (by assumption))) (by assumption) hch)
    refine k_lv [(0, .ref (h 0)), (1, .int (nI p)), (2, .int (nI q)), (3, .int (nI s)), (4, .int (nI 1)), (5, .int (nI 0))] [2, 3, 4, 5, 1, 0] rfl ?_
    exact L19 (4 - 0 + 1) 0 true lo hi (Nat.lt_succ_self _) (by omega) (by intro j; rw [if_neg (by omega)]) (by intro j; rw [if_neg (by omega)]) (by simp only [chB, chgTo, *, if_true, Bool.false_eq_true, if_false])
