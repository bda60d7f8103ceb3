theorem zm_X4_narrow_f42 : (Cond.fieldLink RX4 42 RX4 "n" "I" : Cond) ∈ wsX4_narrow := by decide +kernel
theorem zin_X4_narrow_X4 : ∀ w ∈ u_ws RX4 TX4 15, w ∈ wsX4_narrow := by decide +kernel
theorem zm_X4_narrow_f13 : (Cond.fieldLink RX4 13 RX4 "on" "[Z" : Cond) ∈ wsX4_narrow := by decide +kernel
theorem zm_X4_narrow_f24 : (Cond.fieldLink RX4 24 RX4 "newOn" "[Z" : Cond) ∈ wsX4_narrow := by decide +kernel
theorem zm_X4_narrow_f17 : (Cond.fieldLink RX4 17 RX4 "lo" "[J" : Cond) ∈ wsX4_narrow := by decide +kernel
theorem zm_X4_narrow_f27 : (Cond.fieldLink RX4 27 RX4 "newLo" "[J" : Cond) ∈ wsX4_narrow := by decide +kernel
theorem zm_X4_narrow_f21 : (Cond.fieldLink RX4 21 RX4 "hi" "[J" : Cond) ∈ wsX4_narrow := by decide +kernel
theorem zm_X4_narrow_f30 : (Cond.fieldLink RX4 30 RX4 "newHi" "[J" : Cond) ∈ wsX4_narrow := by decide +kernel
theorem zm_X4_narrow_f33 : (Cond.fieldLink RX4 33 RX4 "flows" "[Z" : Cond) ∈ wsX4_narrow := by decide +kernel
theorem zm_X4_narrow_f36 : (Cond.fieldLink RX4 36 RX4 "tlo" "[J" : Cond) ∈ wsX4_narrow := by decide +kernel
theorem zm_X4_narrow_f39 : (Cond.fieldLink RX4 39 RX4 "thi" "[J" : Cond) ∈ wsX4_narrow := by decide +kernel
set_option maxHeartbeats 4000000 in
set_option maxRecDepth 100000 in
theorem m_X4_narrow (l : Launch) (E : kE) (h : Nat → Nat) (cd : Nat → Int32) (n : Nat) (rt : Nat) (sc : Bool) (on : Nat → Bool) (lo : Nat → Int64) (hi : Nat → Int64) (non : Nat → Bool) (nlo : Nat → Int64) (nhi : Nat → Int64) (fl : Nat → Bool) (tlo : Nat → Int64) (thi : Nat → Int64) (le : Int64) (gr : Int64) (S : ST) (hn : n ≤ 24) (hok : ∀ p, p < n → okP cd p) (hwh : wholeP cd n) (hRS : Rep on lo hi S) (hoS : okS S) : kC l yX4_narrow wsX4_narrow ({ frames := 4, cells := 0, slots := 0, locals := 114 } : Room) E [.ref (h 0)] (wX4 E h cd n rt sc on lo hi non nlo nhi fl tlo thi le gr) 0 0 (fun v_ w_ => ∃ (on1 : Nat → Bool) (lo1 : Nat → Int64) (hi1 : Nat → Int64) (non1 : Nat → Bool) (nlo1 : Nat → Int64) (nhi1 : Nat → Int64) (fl1 : Nat → Bool) (tlo1 : Nat → Int64) (thi1 : Nat → Int64) (le1 : Int64) (gr1 : Int64), v_ = none ∧ w_ = (wX4 E h cd n rt sc on1 lo1 hi1 non1 nlo1 nhi1 fl1 tlo1 thi1 le1 gr1) ∧ (Rep on1 lo1 hi1 (setTo cd S n))) := by
  refine kC.enter cX4_narrow 5 none [(0, .ref (h 0))] (by decide) rfl (Nat.le_of_ble_eq_true rfl) rfl ?_
  intro g F Rr
  refine k_iconst F (pc := 0) ((nI 0)) dX4_narrow_0 (by decide) ?_
  refine k_istore_n F (pc := 1) [(1, .int (nI 0)), (0, .ref (h 0))] dX4_narrow_1 rfl (by decide) rfl ?_
  have L2 : ∀ (d_ : Nat) (i : Nat) (non2 : Nat → Bool), 24 - i < d_ → (i ≤ 24) → (∀ j, j < i → non2 j = decide (j = 0)) → kK g (wX4 E h cd n rt sc on lo hi non2 nlo nhi fl tlo thi le gr) [(0, .ref (h 0)), (1, .int (nI i))] 0 0 2 [] := by
    intro d_
    induction d_ with
    | zero => intro i non2 hm; exact absurd hm (Nat.not_lt_zero _)
    | succ d_ ih2 =>
      intro i non2 hm2 hi24 hon
      refine k_iload_n F (pc := 2) 1 rfl dX4_narrow_2 rfl ?_
      refine k_bipush F (pc := 3) ((nI 24)) dX4_narrow_3 (by decide) ?_
      refine k_icmp_ge F (pc := 5) 29 dX4_narrow_5 (by decide) (nI_toInt (by omega)) (show (nI 24 : Int32).toInt = 24 by decide) (fun c_1 => ?_) (fun c_1 => ?_)
      · skip
        refine k_iconst F (pc := 29) ((nI 0)) dX4_narrow_29 (by decide) ?_
        refine k_istore_n F (pc := 30) [(1, .int (nI 0)), (0, .ref (h 0))] dX4_narrow_30 rfl (by decide) rfl ?_
        have L31 : ∀ (d_ : Nat) (i : Nat) (nl2 : Nat → Int64) (nh2 : Nat → Int64), 4 - i < d_ → (i ≤ 4) → (∀ j, j < i → nl2 j = 0 ∧ nh2 j = 0) → kK g (wX4 E h cd n rt sc on lo hi non2 nl2 nh2 fl tlo thi le gr) [(0, .ref (h 0)), (1, .int (nI i))] 0 0 31 [] := by
          intro d_
          induction d_ with
          | zero => intro i nl2 nh2 hm; exact absurd hm (Nat.not_lt_zero _)
          | succ d_ ih31 =>
            intro i nl2 nh2 hm31 hi4 hlz
            refine k_iload_n F (pc := 31) 1 rfl dX4_narrow_31 rfl ?_
            refine k_iconst F (pc := 32) ((nI 4)) dX4_narrow_32 (by decide) ?_
            refine k_icmp_ge F (pc := 33) 56 dX4_narrow_33 (by decide) (nI_toInt (by omega)) (show (nI 4 : Int32).toInt = 4 by decide) (fun c_2 => ?_) (fun c_2 => ?_)
            · skip
              refine k_iconst F (pc := 56) ((nI 0)) dX4_narrow_56 (by decide) ?_
              refine k_istore_n F (pc := 57) [(1, .int (nI 0)), (0, .ref (h 0))] dX4_narrow_57 rfl (by decide) rfl ?_
              have L58 : ∀ (d_ : Nat) (i : Nat) (non3 : Nat → Bool) (nl3 : Nat → Int64) (nh3 : Nat → Int64) (fl3 : Nat → Bool) (tl3 : Nat → Int64) (th3 : Nat → Int64) (le3 : Int64) (gr3 : Int64), n - i < d_ → (i ≤ n) → (Rep non3 nl3 nh3 (setTo cd S i)) → kK g (wX4 E h cd n rt sc on lo hi non3 nl3 nh3 fl3 tl3 th3 le3 gr3) [(0, .ref (h 0)), (1, .int (nI i))] 0 0 58 [] := by
                intro d_
                induction d_ with
                | zero => intro i non3 nl3 nh3 fl3 tl3 th3 le3 gr3 hm; exact absurd hm (Nat.not_lt_zero _)
                | succ d_ ih58 =>
                  intro i non3 nl3 nh3 fl3 tl3 th3 le3 gr3 hm58 hin hrp
                  refine k_iload_n F (pc := 58) 1 rfl dX4_narrow_58 rfl ?_
                  refine k_aload_n F (pc := 59) 0 rfl dX4_narrow_59 rfl ?_
                  refine k_get F (pc := 60) (ref := RX4) (C := RX4) (T := TX4) (N := 15) (ci := 4) 0 1 dX4_narrow_60 zin_X4_narrow_X4 rfl rfl (by decide) zm_X4_narrow_f42 rfl rfl ?_
                  refine k_icmp_ge F (pc := 63) 260 dX4_narrow_63 (by decide) (nI_toInt (by omega)) (nI_toInt (by omega)) (fun c_3 => ?_) (fun c_3 => ?_)
                  · skip
                    refine k_iconst F (pc := 260) ((nI 0)) dX4_narrow_260 (by decide) ?_
                    refine k_istore_n F (pc := 261) [(1, .int (nI 0)), (0, .ref (h 0))] dX4_narrow_261 rfl (by decide) rfl ?_
                    have L262 : ∀ (d_ : Nat) (i2 : Nat) (lo5 : Nat → Int64) (hi5 : Nat → Int64), 96 - i2 < d_ → (i2 ≤ 96) → (∀ j, j < i2 → lo5 j = nl3 j ∧ hi5 j = nh3 j) → kK g (wX4 E h cd n rt sc on lo5 hi5 non3 nl3 nh3 fl3 tl3 th3 le3 gr3) [(0, .ref (h 0)), (1, .int (nI i2))] 0 0 262 [] := by
                      intro d_
                      induction d_ with
                      | zero => intro i2 lo5 hi5 hm; exact absurd hm (Nat.not_lt_zero _)
                      | succ d_ ih262 =>
                        intro i2 lo5 hi5 hm262 hi96 hcl
                        refine k_iload_n F (pc := 262) 1 rfl dX4_narrow_262 rfl ?_
                        refine k_bipush F (pc := 263) ((nI 96)) dX4_narrow_263 (by decide) ?_
                        refine k_icmp_ge F (pc := 265) 298 dX4_narrow_265 (by decide) (nI_toInt (by omega)) (show (nI 96 : Int32).toInt = 96 by decide) (fun c_4 => ?_) (fun c_4 => ?_)
                        · skip
                          refine k_iconst F (pc := 298) ((nI 0)) dX4_narrow_298 (by decide) ?_
                          refine k_istore_n F (pc := 299) [(1, .int (nI 0)), (0, .ref (h 0))] dX4_narrow_299 rfl (by decide) rfl ?_
                          have L300 : ∀ (d_ : Nat) (i3 : Nat) (on5 : Nat → Bool), 24 - i3 < d_ → (i3 ≤ 24) → (∀ j, j < i3 → on5 j = non3 j) → kK g (wX4 E h cd n rt sc on5 lo5 hi5 non3 nl3 nh3 fl3 tl3 th3 le3 gr3) [(0, .ref (h 0)), (1, .int (nI i3))] 0 0 300 [] := by
                            intro d_
                            induction d_ with
                            | zero => intro i3 on5 hm; exact absurd hm (Nat.not_lt_zero _)
                            | succ d_ ih300 =>
                              intro i3 on5 hm300 hi24 hco
                              refine k_iload_n F (pc := 300) 1 rfl dX4_narrow_300 rfl ?_
                              refine k_bipush F (pc := 301) ((nI 24)) dX4_narrow_301 (by decide) ?_
                              refine k_icmp_ge F (pc := 303) 324 dX4_narrow_303 (by decide) (nI_toInt (by omega)) (show (nI 24 : Int32).toInt = 24 by decide) (fun c_5 => ?_) (fun c_5 => ?_)
                              · skip
                                refine k_vret F Rr (pc := 324) dX4_narrow_324 ⟨on5, lo5, hi5, non3, nl3, nh3, fl3, tl3, th3, le3, gr3, rfl, rfl, ?_⟩
                                rw [show i = n by omega] at hrp
                                exact rep_copy (fun j hj => hco j (by omega)) (fun j hj => hcl j (by omega)) hrp
                              · skip
                                refine k_aload_n F (pc := 306) 0 rfl dX4_narrow_306 rfl ?_
                                refine k_get F (pc := 307) (ref := RX4) (C := RX4) (T := TX4) (N := 15) (ci := 4) 0 4 dX4_narrow_307 zin_X4_narrow_X4 rfl rfl (by decide) zm_X4_narrow_f13 rfl rfl ?_
                                refine k_iload_n F (pc := 310) 1 rfl dX4_narrow_310 rfl ?_
                                refine k_aload_n F (pc := 311) 0 rfl dX4_narrow_311 rfl ?_
                                refine k_get F (pc := 312) (ref := RX4) (C := RX4) (T := TX4) (N := 15) (ci := 4) 0 7 dX4_narrow_312 zin_X4_narrow_X4 rfl rfl (by decide) zm_X4_narrow_f24 rfl rfl ?_
                                refine k_iload_n F (pc := 315) 1 rfl dX4_narrow_315 rfl ?_
                                refine k_zald F (pc := 316) 5 dX4_narrow_316 rfl (by omega) (by decide) ?_
                                refine k_zast F (pc := 317) (non3 i3) 2 (fun on_6 => (wX4 E h cd n rt sc on_6 lo5 hi5 non3 nl3 nh3 fl3 tl3 th3 le3 gr3)) dX4_narrow_317 rfl rfl (by omega) (by decide) (fun _ => rfl) (fun on_6 eon_6 => ?_)
                                refine k_iinc F (pc := 318) 1 ((nI (i3 + 1))) [(1, .int (nI (i3 + 1))), (0, .ref (h 0))] dX4_narrow_318 rfl (nI_1 i3) (by decide) rfl ?_
                                refine k_goto F (pc := 321) 300 dX4_narrow_321 (by decide) ?_
                                refine k_lv [(0, .ref (h 0)), (1, .int (nI (i3 + 1)))] [1, 0] rfl ?_
                                exact ih300 (i3 + 1) on_6 (by omega) (by omega) (by exact upB_step (P := non3) (by assumption) hco rfl)
                          refine k_lv [(0, .ref (h 0)), (1, .int (nI 0))] [1, 0] rfl ?_
                          exact L300 (24 - 0 + 1) 0 on (Nat.lt_succ_self _) (by omega) (by intro j hj; omega)
                        · skip
                          refine k_aload_n F (pc := 268) 0 rfl dX4_narrow_268 rfl ?_
                          refine k_get F (pc := 269) (ref := RX4) (C := RX4) (T := TX4) (N := 15) (ci := 4) 0 5 dX4_narrow_269 zin_X4_narrow_X4 rfl rfl (by decide) zm_X4_narrow_f17 rfl rfl ?_
                          refine k_iload_n F (pc := 272) 1 rfl dX4_narrow_272 rfl ?_
                          refine k_aload_n F (pc := 273) 0 rfl dX4_narrow_273 rfl ?_
                          refine k_get F (pc := 274) (ref := RX4) (C := RX4) (T := TX4) (N := 15) (ci := 4) 0 8 dX4_narrow_274 zin_X4_narrow_X4 rfl rfl (by decide) zm_X4_narrow_f27 rfl rfl ?_
                          refine k_iload_n F (pc := 277) 1 rfl dX4_narrow_277 rfl ?_
                          refine k_lald F (pc := 278) 6 dX4_narrow_278 rfl (by omega) (by decide) ?_
                          refine k_last F (pc := 279) 3 (fun lo_7 => (wX4 E h cd n rt sc on lo_7 hi5 non3 nl3 nh3 fl3 tl3 th3 le3 gr3)) dX4_narrow_279 rfl (by omega) (by decide) (fun _ => rfl) (fun lo_7 elo_7 => ?_)
                          refine k_aload_n F (pc := 280) 0 rfl dX4_narrow_280 rfl ?_
                          refine k_get F (pc := 281) (ref := RX4) (C := RX4) (T := TX4) (N := 15) (ci := 4) 0 6 dX4_narrow_281 zin_X4_narrow_X4 rfl rfl (by decide) zm_X4_narrow_f21 rfl rfl ?_
                          refine k_iload_n F (pc := 284) 1 rfl dX4_narrow_284 rfl ?_
                          refine k_aload_n F (pc := 285) 0 rfl dX4_narrow_285 rfl ?_
                          refine k_get F (pc := 286) (ref := RX4) (C := RX4) (T := TX4) (N := 15) (ci := 4) 0 9 dX4_narrow_286 zin_X4_narrow_X4 rfl rfl (by decide) zm_X4_narrow_f30 rfl rfl ?_
                          refine k_iload_n F (pc := 289) 1 rfl dX4_narrow_289 rfl ?_
                          refine k_lald F (pc := 290) 7 dX4_narrow_290 rfl (by omega) (by decide) ?_
                          refine k_last F (pc := 291) 4 (fun hi_8 => (wX4 E h cd n rt sc on lo_7 hi_8 non3 nl3 nh3 fl3 tl3 th3 le3 gr3)) dX4_narrow_291 rfl (by omega) (by decide) (fun _ => rfl) (fun hi_8 ehi_8 => ?_)
                          refine k_iinc F (pc := 292) 1 ((nI (i2 + 1))) [(1, .int (nI (i2 + 1))), (0, .ref (h 0))] dX4_narrow_292 rfl (nI_1 i2) (by decide) rfl ?_
                          refine k_goto F (pc := 295) 262 dX4_narrow_295 (by decide) ?_
                          refine k_lv [(0, .ref (h 0)), (1, .int (nI (i2 + 1)))] [1, 0] rfl ?_
                          exact ih262 (i2 + 1) lo_7 hi_8 (by omega) (by omega) (by exact updL_copy hcl (by assumption) (by assumption))
                    refine k_lv [(0, .ref (h 0)), (1, .int (nI 0))] [1, 0] rfl ?_
                    exact L262 (96 - 0 + 1) 0 lo hi (Nat.lt_succ_self _) (by omega) (by intro j hj; omega)
                  · skip
                    refine k_aload_n F (pc := 66) 0 rfl dX4_narrow_66 rfl ?_
                    refine k_get F (pc := 67) (ref := RX4) (C := RX4) (T := TX4) (N := 15) (ci := 4) 0 4 dX4_narrow_67 zin_X4_narrow_X4 rfl rfl (by decide) zm_X4_narrow_f13 rfl rfl ?_
                    refine k_iload_n F (pc := 70) 1 rfl dX4_narrow_70 rfl ?_
                    refine k_zald F (pc := 71) 2 dX4_narrow_71 rfl (by omega) (by decide) ?_
                    refine k_if_eqB F (pc := 72) 80 dX4_narrow_72 (by decide) (fun c_9 => ?_) (fun c_9 => ?_)
                    · skip
                      have hnone := hRS.off (by omega) c_9
                      refine k_iconst F (pc := 80) ((nI 0)) dX4_narrow_80 (by decide) ?_
                      refine k_istore_n F (pc := 81) [(2, .int (nI 0)), (0, .ref (h 0)), (1, .int (nI i))] dX4_narrow_81 rfl (by decide) rfl ?_
                      refine k_iload_n F (pc := 82) 0 rfl dX4_narrow_82 rfl ?_
                      refine k_iconst F (pc := 83) ((nI 2)) dX4_narrow_83 (by decide) ?_
                      refine k_icmp_ge F (pc := 84) 254 dX4_narrow_84 (by decide) (show (nI 0 : Int32).toInt = 0 by decide) (show (nI 2 : Int32).toInt = 2 by decide) (fun c_10 => ?_) (fun c_10 => ?_)
                      · skip
                        exact absurd c_10 (by decide)
                      · skip
                        refine k_aload_n F (pc := 87) 1 rfl dX4_narrow_87 rfl ?_
                        refine k_get F (pc := 88) (ref := RX4) (C := RX4) (T := TX4) (N := 15) (ci := 4) 0 4 dX4_narrow_88 zin_X4_narrow_X4 rfl rfl (by decide) zm_X4_narrow_f13 rfl rfl ?_
                        refine k_iload_n F (pc := 91) 2 rfl dX4_narrow_91 rfl ?_
                        refine k_zald F (pc := 92) 2 dX4_narrow_92 rfl (by omega) (by decide) ?_
                        refine k_if_eqB F (pc := 93) 248 dX4_narrow_93 (by decide) (fun c_11 => ?_) (fun c_11 => ?_)
                        · skip
                          refine k_iinc F (pc := 248) 0 ((nI 1)) [(2, .int (nI 1)), (0, .ref (h 0)), (1, .int (nI i))] dX4_narrow_248 rfl (nI_1 0) (by decide) rfl ?_
                          refine k_goto F (pc := 251) 82 dX4_narrow_251 (by decide) ?_
                          refine k_iload_n F (pc := 82) 0 rfl dX4_narrow_82 rfl ?_
                          refine k_iconst F (pc := 83) ((nI 2)) dX4_narrow_83 (by decide) ?_
                          refine k_icmp_ge F (pc := 84) 254 dX4_narrow_84 (by decide) (show (nI 1 : Int32).toInt = 1 by decide) (show (nI 2 : Int32).toInt = 2 by decide) (fun c_12 => ?_) (fun c_12 => ?_)
                          · skip
                            exact absurd c_12 (by decide)
                          · skip
                            refine k_aload_n F (pc := 87) 1 rfl dX4_narrow_87 rfl ?_
                            refine k_get F (pc := 88) (ref := RX4) (C := RX4) (T := TX4) (N := 15) (ci := 4) 0 4 dX4_narrow_88 zin_X4_narrow_X4 rfl rfl (by decide) zm_X4_narrow_f13 rfl rfl ?_
                            refine k_iload_n F (pc := 91) 2 rfl dX4_narrow_91 rfl ?_
                            refine k_zald F (pc := 92) 2 dX4_narrow_92 rfl (by omega) (by decide) ?_
                            refine k_if_eqB F (pc := 93) 248 dX4_narrow_93 (by decide) (fun c_13 => ?_) (fun c_13 => ?_)
                            · skip
                              refine k_iinc F (pc := 248) 0 ((nI 2)) [(2, .int (nI 2)), (0, .ref (h 0)), (1, .int (nI i))] dX4_narrow_248 rfl (nI_1 1) (by decide) rfl ?_
                              refine k_goto F (pc := 251) 82 dX4_narrow_251 (by decide) ?_
                              refine k_iload_n F (pc := 82) 0 rfl dX4_narrow_82 rfl ?_
                              refine k_iconst F (pc := 83) ((nI 2)) dX4_narrow_83 (by decide) ?_
                              refine k_icmp_ge F (pc := 84) 254 dX4_narrow_84 (by decide) (show (nI 2 : Int32).toInt = 2 by decide) (show (nI 2 : Int32).toInt = 2 by decide) (fun c_14 => ?_) (fun c_14 => ?_)
                              · skip
                                refine k_iinc F (pc := 254) 2 ((nI (i + 1))) [(1, .int (nI (i + 1))), (2, .int (nI 2)), (0, .ref (h 0))] dX4_narrow_254 rfl (nI_1 i) (by decide) rfl ?_
                                refine k_goto F (pc := 257) 58 dX4_narrow_257 (by decide) ?_
                                refine k_lv [(0, .ref (h 0)), (1, .int (nI (i + 1)))] [2, 0] rfl ?_
                                exact ih58 (i + 1) non3 nl3 nh3 fl3 tl3 th3 le3 gr3 (by omega) (by omega) (by rw [set_none hnone]; exact hrp)
                              · skip
                                exact absurd c_14 (by decide)
                            · skip
                              exact absurd (c_9.symm.trans c_13) (by decide)
                        · skip
                          exact absurd (c_9.symm.trans c_11) (by decide)
                    · skip
                      obtain ⟨X, hsome, hXv⟩ := hRS.up (by omega) c_9
                      refine k_aload_n F (pc := 75) 0 rfl dX4_narrow_75 rfl ?_
                      refine k_iload_n F (pc := 76) 1 rfl dX4_narrow_76 rfl ?_
                      refine k_callV F (pc := 77) (C := RX4) (T := TX4) (N := 15) (ci := 4) [.int (nI i)] [] 1 (wX4 E h cd n rt sc on lo hi non3 nl3 nh3 fl3 tl3 th3 le3 gr3) [] [0, 1, 2, 3, 4, 5, 6, 7, 8, 9, 10] [] (m_X4_flow l E h cd n rt sc on lo hi non3 nl3 nh3 fl3 tl3 th3 le3 gr3 i X (by omega) (hok i (by omega)) (hoS _ _ hsome) hXv) dX4_narrow_77 gX4_narrow_X4_flow rfl (by decide +kernel) rfl ⟨rfl, rfl⟩ (by decide) rfl (Nat.le_of_ble_eq_true rfl) (by decide) rfl rfl rfl rfl (by decide) (by decide) (by decide) ?_
                      rintro v_20 w_21 ⟨fl1_15, tlo1_16, thi1_17, le1_18, gr1_19, rfl, rfl, hfw⟩
                      refine k_perm (wX4 E h cd n rt sc on lo hi non3 nl3 nh3 fl1_15 tlo1_16 thi1_17 le1_18 gr1_19) [0, 1, 2, 3, 4, 5, 6, 7, 8, 9, 10] (by decide) rfl ?_
                      show kK g (wX4 E h cd n rt sc on lo hi non3 nl3 nh3 fl1_15 tlo1_16 thi1_17 le1_18 gr1_19) [(0, .ref (h 0)), (1, .int (nI i))] 0 0 80 []
                      refine k_iconst F (pc := 80) ((nI 0)) dX4_narrow_80 (by decide) ?_
                      refine k_istore_n F (pc := 81) [(2, .int (nI 0)), (0, .ref (h 0)), (1, .int (nI i))] dX4_narrow_81 rfl (by decide) rfl ?_
                      refine k_iload_n F (pc := 82) 0 rfl dX4_narrow_82 rfl ?_
                      refine k_iconst F (pc := 83) ((nI 2)) dX4_narrow_83 (by decide) ?_
                      refine k_icmp_ge F (pc := 84) 254 dX4_narrow_84 (by decide) (show (nI 0 : Int32).toInt = 0 by decide) (show (nI 2 : Int32).toInt = 2 by decide) (fun c_22 => ?_) (fun c_22 => ?_)
                      · skip
                        exact absurd c_22 (by decide)
                      · skip
                        refine k_aload_n F (pc := 87) 1 rfl dX4_narrow_87 rfl ?_
                        refine k_get F (pc := 88) (ref := RX4) (C := RX4) (T := TX4) (N := 15) (ci := 4) 0 4 dX4_narrow_88 zin_X4_narrow_X4 rfl rfl (by decide) zm_X4_narrow_f13 rfl rfl ?_
                        refine k_iload_n F (pc := 91) 2 rfl dX4_narrow_91 rfl ?_
                        refine k_zald F (pc := 92) 2 dX4_narrow_92 rfl (by omega) (by decide) ?_
                        refine k_if_eqB F (pc := 93) 248 dX4_narrow_93 (by decide) (fun c_23 => ?_) (fun c_23 => ?_)
                        · skip
                          exact absurd (c_9.symm.trans c_23) (by decide)
                        · skip
                          refine k_aload_n F (pc := 96) 1 rfl dX4_narrow_96 rfl ?_
                          refine k_get F (pc := 97) (ref := RX4) (C := RX4) (T := TX4) (N := 15) (ci := 4) 0 10 dX4_narrow_97 zin_X4_narrow_X4 rfl rfl (by decide) zm_X4_narrow_f33 rfl rfl ?_
                          refine k_iload_n F (pc := 100) 0 rfl dX4_narrow_100 rfl ?_
                          refine k_zald F (pc := 101) 8 dX4_narrow_101 rfl (by omega) (by decide) ?_
                          refine k_if_eqB F (pc := 102) 248 dX4_narrow_102 (by decide) (fun c_24 => ?_) (fun c_24 => ?_)
                          · skip
                            have hF0 : fN cd i X = none := FRep.none_of2 c_24 hfw.1
                            refine k_iinc F (pc := 248) 0 ((nI 1)) [(2, .int (nI 1)), (0, .ref (h 0)), (1, .int (nI i))] dX4_narrow_248 rfl (nI_1 0) (by decide) rfl ?_
                            refine k_goto F (pc := 251) 82 dX4_narrow_251 (by decide) ?_
                            refine k_iload_n F (pc := 82) 0 rfl dX4_narrow_82 rfl ?_
                            refine k_iconst F (pc := 83) ((nI 2)) dX4_narrow_83 (by decide) ?_
                            refine k_icmp_ge F (pc := 84) 254 dX4_narrow_84 (by decide) (show (nI 1 : Int32).toInt = 1 by decide) (show (nI 2 : Int32).toInt = 2 by decide) (fun c_25 => ?_) (fun c_25 => ?_)
                            · skip
                              exact absurd c_25 (by decide)
                            · skip
                              refine k_aload_n F (pc := 87) 1 rfl dX4_narrow_87 rfl ?_
                              refine k_get F (pc := 88) (ref := RX4) (C := RX4) (T := TX4) (N := 15) (ci := 4) 0 4 dX4_narrow_88 zin_X4_narrow_X4 rfl rfl (by decide) zm_X4_narrow_f13 rfl rfl ?_
                              refine k_iload_n F (pc := 91) 2 rfl dX4_narrow_91 rfl ?_
                              refine k_zald F (pc := 92) 2 dX4_narrow_92 rfl (by omega) (by decide) ?_
                              refine k_if_eqB F (pc := 93) 248 dX4_narrow_93 (by decide) (fun c_26 => ?_) (fun c_26 => ?_)
                              · skip
                                exact absurd (c_9.symm.trans c_26) (by decide)
                              · skip
                                refine k_aload_n F (pc := 96) 1 rfl dX4_narrow_96 rfl ?_
                                refine k_get F (pc := 97) (ref := RX4) (C := RX4) (T := TX4) (N := 15) (ci := 4) 0 10 dX4_narrow_97 zin_X4_narrow_X4 rfl rfl (by decide) zm_X4_narrow_f33 rfl rfl ?_
                                refine k_iload_n F (pc := 100) 0 rfl dX4_narrow_100 rfl ?_
                                refine k_zald F (pc := 101) 8 dX4_narrow_101 rfl (by omega) (by decide) ?_
                                refine k_if_eqB F (pc := 102) 248 dX4_narrow_102 (by decide) (fun c_27 => ?_) (fun c_27 => ?_)
                                · skip
                                  have hF1 : fP cd i X = none := FRep.none_of2 c_27 hfw.2
                                  refine k_iinc F (pc := 248) 0 ((nI 2)) [(2, .int (nI 2)), (0, .ref (h 0)), (1, .int (nI i))] dX4_narrow_248 rfl (nI_1 1) (by decide) rfl ?_
                                  refine k_goto F (pc := 251) 82 dX4_narrow_251 (by decide) ?_
                                  refine k_iload_n F (pc := 82) 0 rfl dX4_narrow_82 rfl ?_
                                  refine k_iconst F (pc := 83) ((nI 2)) dX4_narrow_83 (by decide) ?_
                                  refine k_icmp_ge F (pc := 84) 254 dX4_narrow_84 (by decide) (show (nI 2 : Int32).toInt = 2 by decide) (show (nI 2 : Int32).toInt = 2 by decide) (fun c_28 => ?_) (fun c_28 => ?_)
                                  · skip
                                    refine k_iinc F (pc := 254) 2 ((nI (i + 1))) [(1, .int (nI (i + 1))), (2, .int (nI 2)), (0, .ref (h 0))] dX4_narrow_254 rfl (nI_1 i) (by decide) rfl ?_
                                    refine k_goto F (pc := 257) 58 dX4_narrow_257 (by decide) ?_
                                    refine k_lv [(0, .ref (h 0)), (1, .int (nI (i + 1)))] [2, 0] rfl ?_
                                    exact ih58 (i + 1) non3 nl3 nh3 fl1_15 tlo1_16 thi1_17 le1_18 gr1_19 (by omega) (by omega) (by rw [set_some hsome]; simp only [snd2, hF0, hF1, arr_none, Bool.false_and]; exact hrp)
                                  · skip
                                    exact absurd c_28 (by decide)
                                · skip
                                  obtain ⟨T1, hF1, hTv1⟩ := FRep.some_of2 c_27 hfw.2
                                  obtain ⟨eq1, hq1, hq2⟩ := okP_q (hok i (by omega)) (fP_op (by rw [hF1]; simp : fP cd i X ≠ none))
                                  have hdec : decide ((cd (4 * i + 3)).toInt ≤ (i : Int)) = decide ((cd (4 * i + 3)).toNatClampNeg ≤ i) := by rw [hq2]; exact decide_eq_decide.mpr (by omega)
                                  refine k_aload_n F (pc := 105) 1 rfl dX4_narrow_105 rfl ?_
                                  refine k_iload_n F (pc := 106) 2 rfl dX4_narrow_106 rfl ?_
                                  refine k_iload_n F (pc := 107) 0 rfl dX4_narrow_107 rfl ?_
                                  refine k_callV F (pc := 108) (C := RX4) (T := TX4) (N := 15) (ci := 4) [.int (nI i), .int (nI 1)] [] 2 (wX4 E h cd n rt sc on lo hi non3 nl3 nh3 fl1_15 tlo1_16 thi1_17 le1_18 gr1_19) [] [0, 1, 2, 3, 4, 5, 6, 7, 8, 9, 10] [] (m_X4_target__1 l E h cd n rt sc on lo hi non3 nl3 nh3 fl1_15 tlo1_16 thi1_17 le1_18 gr1_19 i (by omega)) dX4_narrow_108 gX4_narrow_X4_target rfl (by decide +kernel) rfl ⟨rfl, rfl⟩ (by decide) rfl (Nat.le_of_ble_eq_true rfl) (by decide) rfl rfl rfl rfl (by decide) (by decide) (by decide) ?_
                                  rintro v_29 w_30 ⟨rfl, rfl⟩
                                  refine k_perm (wX4 E h cd n rt sc on lo hi non3 nl3 nh3 fl1_15 tlo1_16 thi1_17 le1_18 gr1_19) [0, 1, 2, 3, 4, 5, 6, 7, 8, 9, 10] (by decide) rfl ?_
                                  show kK g (wX4 E h cd n rt sc on lo hi non3 nl3 nh3 fl1_15 tlo1_16 thi1_17 le1_18 gr1_19) [(2, .int (nI 1)), (0, .ref (h 0)), (1, .int (nI i))] 0 0 111 [.int (cd (4 * i + 3))]
                                  refine k_topi (nI ((cd (4 * i + 3)).toNatClampNeg)) eq1 ?_
                                  refine k_istore_n F (pc := 111) [(3, .int (nI ((cd (4 * i + 3)).toNatClampNeg))), (2, .int (nI 1)), (0, .ref (h 0)), (1, .int (nI i))] dX4_narrow_111 rfl (by decide) rfl ?_
                                  refine k_iconst F (pc := 112) ((nI 0)) dX4_narrow_112 (by decide) ?_
                                  refine k_istore F (pc := 113) [(4, .int (nI 0)), (3, .int (nI ((cd (4 * i + 3)).toNatClampNeg))), (2, .int (nI 1)), (0, .ref (h 0)), (1, .int (nI i))] dX4_narrow_113 (by decide) rfl ?_
                                  have L115 : ∀ (d_ : Nat) (v1 : Nat) (nl41 : Nat → Int64) (nh41 : Nat → Int64), 4 - v1 < d_ → (v1 ≤ 4) → (∀ j, nl41 j = if 4 * ((cd (4 * i + 3)).toNatClampNeg) ≤ j ∧ j < 4 * ((cd (4 * i + 3)).toNatClampNeg) + v1 then nloB (non3 ((cd (4 * i + 3)).toNatClampNeg)) false (nl3 j) (tlo1_16 (4 * 1 + (j - 4 * ((cd (4 * i + 3)).toNatClampNeg)))) else nl3 j) → (∀ j, nh41 j = if 4 * ((cd (4 * i + 3)).toNatClampNeg) ≤ j ∧ j < 4 * ((cd (4 * i + 3)).toNatClampNeg) + v1 then nhiB (non3 ((cd (4 * i + 3)).toNatClampNeg)) false (nh3 j) (thi1_17 (4 * 1 + (j - 4 * ((cd (4 * i + 3)).toNatClampNeg)))) else nh3 j) → kK g (wX4 E h cd n rt sc on lo hi non3 nl41 nh41 fl1_15 tlo1_16 thi1_17 le1_18 gr1_19) [(0, .ref (h 0)), (1, .int (nI i)), (2, .int (nI 1)), (3, .int (nI ((cd (4 * i + 3)).toNatClampNeg))), (4, .int (nI v1))] 0 0 115 [] := by
                                    intro d_
                                    induction d_ with
                                    | zero => intro v1 nl41 nh41 hm; exact absurd hm (Nat.not_lt_zero _)
                                    | succ d_ ih115 =>
                                      intro v1 nl41 nh41 hm115 hv41 hlo1 hhi1
                                      refine k_iload F (pc := 115) 4 rfl dX4_narrow_115 ?_
                                      refine k_iconst F (pc := 117) ((nI 4)) dX4_narrow_117 (by decide) ?_
                                      refine k_icmp_ge F (pc := 118) 241 dX4_narrow_118 (by decide) (nI_toInt (by omega)) (show (nI 4 : Int32).toInt = 4 by decide) (fun c_31 => ?_) (fun c_31 => ?_)
                                      · skip
                                        refine k_aload_n F (pc := 241) 0 rfl dX4_narrow_241 rfl ?_
                                        refine k_get F (pc := 242) (ref := RX4) (C := RX4) (T := TX4) (N := 15) (ci := 4) 0 7 dX4_narrow_242 zin_X4_narrow_X4 rfl rfl (by decide) zm_X4_narrow_f24 rfl rfl ?_
                                        refine k_iload_n F (pc := 245) 3 rfl dX4_narrow_245 rfl ?_
                                        refine k_iconst F (pc := 246) ((nI 1)) dX4_narrow_246 (by decide) ?_
                                        refine k_zast F (pc := 247) true 5 (fun non_32 => (wX4 E h cd n rt sc on lo hi non_32 nl41 nh41 fl1_15 tlo1_16 thi1_17 le1_18 gr1_19)) dX4_narrow_247 rfl rfl (by omega) (by decide) (fun _ => rfl) (fun non_32 enon_32 => ?_)
                                        rw [show v1 = 4 by omega] at hlo1 hhi1
                                        have hrp1 : Rep non_32 nl41 nh41 (arr (setTo cd S i) ((cd (4 * i + 3)).toNatClampNeg) (some T1) false).2 := arv_rep (tl := fun v => tlo1_16 (4 * 1 + v)) (th := fun v => thi1_17 (4 * 1 + v)) hrp (by omega) (fun v hv => hTv1 v hv) hlo1 hhi1 (by assumption)
                                        refine k_iinc F (pc := 248) 2 ((nI 2)) [(2, .int (nI 2)), (0, .ref (h 0)), (1, .int (nI i)), (3, .int (nI ((cd (4 * i + 3)).toNatClampNeg))), (4, .int (nI v1))] dX4_narrow_248 rfl (nI_1 1) (by decide) rfl ?_
                                        refine k_goto F (pc := 251) 82 dX4_narrow_251 (by decide) ?_
                                        refine k_iload_n F (pc := 82) 0 rfl dX4_narrow_82 rfl ?_
                                        refine k_iconst F (pc := 83) ((nI 2)) dX4_narrow_83 (by decide) ?_
                                        refine k_icmp_ge F (pc := 84) 254 dX4_narrow_84 (by decide) (show (nI 2 : Int32).toInt = 2 by decide) (show (nI 2 : Int32).toInt = 2 by decide) (fun c_33 => ?_) (fun c_33 => ?_)
                                        · skip
                                          refine k_iinc F (pc := 254) 2 ((nI (i + 1))) [(1, .int (nI (i + 1))), (2, .int (nI 2)), (0, .ref (h 0)), (3, .int (nI ((cd (4 * i + 3)).toNatClampNeg))), (4, .int (nI v1))] dX4_narrow_254 rfl (nI_1 i) (by decide) rfl ?_
                                          refine k_goto F (pc := 257) 58 dX4_narrow_257 (by decide) ?_
                                          refine k_lv [(0, .ref (h 0)), (1, .int (nI (i + 1)))] [2, 0] rfl ?_
                                          exact ih58 (i + 1) non_32 nl41 nh41 fl1_15 tlo1_16 thi1_17 le1_18 gr1_19 (by omega) (by omega) (by rw [set_some hsome]; simp only [snd2, hF0, hF1, arr_none, Bool.false_and]; exact hrp1)
                                        · skip
                                          exact absurd c_33 (by decide)
                                      · skip
                                        refine k_aload_n F (pc := 121) 0 rfl dX4_narrow_121 rfl ?_
                                        refine k_get F (pc := 122) (ref := RX4) (C := RX4) (T := TX4) (N := 15) (ci := 4) 0 7 dX4_narrow_122 zin_X4_narrow_X4 rfl rfl (by decide) zm_X4_narrow_f24 rfl rfl ?_
                                        refine k_iload_n F (pc := 125) 3 rfl dX4_narrow_125 rfl ?_
                                        refine k_zald F (pc := 126) 5 dX4_narrow_126 rfl (by omega) (by decide) ?_
                                        refine k_if_eqB F (pc := 127) 156 dX4_narrow_127 (by decide) (fun c_34 => ?_) (fun c_34 => ?_)
                                        · skip
                                          refine k_aload_n F (pc := 156) 0 rfl dX4_narrow_156 rfl ?_
                                          refine k_get F (pc := 157) (ref := RX4) (C := RX4) (T := TX4) (N := 15) (ci := 4) 0 8 dX4_narrow_157 zin_X4_narrow_X4 rfl rfl (by decide) zm_X4_narrow_f27 rfl rfl ?_
                                          refine k_iconst F (pc := 160) ((nI 4)) dX4_narrow_160 (by decide) ?_
                                          refine k_iload_n F (pc := 161) 3 rfl dX4_narrow_161 rfl ?_
                                          refine k_imulN F (pc := 162) dX4_narrow_162 ?_
                                          refine k_iload F (pc := 163) 4 rfl dX4_narrow_163 ?_
                                          refine k_iaddN F (pc := 165) dX4_narrow_165 ?_
                                          refine k_aload_n F (pc := 166) 0 rfl dX4_narrow_166 rfl ?_
                                          refine k_get F (pc := 167) (ref := RX4) (C := RX4) (T := TX4) (N := 15) (ci := 4) 0 11 dX4_narrow_167 zin_X4_narrow_X4 rfl rfl (by decide) zm_X4_narrow_f36 rfl rfl ?_
                                          refine k_iconst F (pc := 170) ((nI 4)) dX4_narrow_170 (by decide) ?_
                                          refine k_iload_n F (pc := 171) 2 rfl dX4_narrow_171 rfl ?_
                                          refine k_imulC F (pc := 172) dX4_narrow_172 ?_
                                          refine k_iload F (pc := 173) 4 rfl dX4_narrow_173 ?_
                                          refine k_iaddN F (pc := 175) dX4_narrow_175 ?_
                                          refine k_lald F (pc := 176) 9 dX4_narrow_176 rfl (by omega) (by decide) ?_
                                          refine k_last F (pc := 177) 6 (fun nlo_35 => (wX4 E h cd n rt sc on lo hi non3 nlo_35 nh41 fl1_15 tlo1_16 thi1_17 le1_18 gr1_19)) dX4_narrow_177 rfl (by omega) (by decide) (fun _ => rfl) (fun nlo_35 enlo_35 => ?_)
                                          refine k_aload_n F (pc := 178) 0 rfl dX4_narrow_178 rfl ?_
                                          refine k_get F (pc := 179) (ref := RX4) (C := RX4) (T := TX4) (N := 15) (ci := 4) 0 7 dX4_narrow_179 zin_X4_narrow_X4 rfl rfl (by decide) zm_X4_narrow_f24 rfl rfl ?_
                                          refine k_iload_n F (pc := 182) 3 rfl dX4_narrow_182 rfl ?_
                                          refine k_zald F (pc := 183) 5 dX4_narrow_183 rfl (by omega) (by decide) ?_
                                          refine k_if_eqB F (pc := 184) 213 dX4_narrow_184 (by decide) (fun c_36 => ?_) (fun c_36 => ?_)
                                          · skip
                                            refine k_aload_n F (pc := 213) 0 rfl dX4_narrow_213 rfl ?_
                                            refine k_get F (pc := 214) (ref := RX4) (C := RX4) (T := TX4) (N := 15) (ci := 4) 0 9 dX4_narrow_214 zin_X4_narrow_X4 rfl rfl (by decide) zm_X4_narrow_f30 rfl rfl ?_
                                            refine k_iconst F (pc := 217) ((nI 4)) dX4_narrow_217 (by decide) ?_
                                            refine k_iload_n F (pc := 218) 3 rfl dX4_narrow_218 rfl ?_
                                            refine k_imulN F (pc := 219) dX4_narrow_219 ?_
                                            refine k_iload F (pc := 220) 4 rfl dX4_narrow_220 ?_
                                            refine k_iaddN F (pc := 222) dX4_narrow_222 ?_
                                            refine k_aload_n F (pc := 223) 0 rfl dX4_narrow_223 rfl ?_
                                            refine k_get F (pc := 224) (ref := RX4) (C := RX4) (T := TX4) (N := 15) (ci := 4) 0 12 dX4_narrow_224 zin_X4_narrow_X4 rfl rfl (by decide) zm_X4_narrow_f39 rfl rfl ?_
                                            refine k_iconst F (pc := 227) ((nI 4)) dX4_narrow_227 (by decide) ?_
                                            refine k_iload_n F (pc := 228) 2 rfl dX4_narrow_228 rfl ?_
                                            refine k_imulC F (pc := 229) dX4_narrow_229 ?_
                                            refine k_iload F (pc := 230) 4 rfl dX4_narrow_230 ?_
                                            refine k_iaddN F (pc := 232) dX4_narrow_232 ?_
                                            refine k_lald F (pc := 233) 10 dX4_narrow_233 rfl (by omega) (by decide) ?_
                                            refine k_last F (pc := 234) 7 (fun nhi_37 => (wX4 E h cd n rt sc on lo hi non3 nlo_35 nhi_37 fl1_15 tlo1_16 thi1_17 le1_18 gr1_19)) dX4_narrow_234 rfl (by omega) (by decide) (fun _ => rfl) (fun nhi_37 enhi_37 => ?_)
                                            refine k_iinc F (pc := 235) 4 ((nI (v1 + 1))) [(4, .int (nI (v1 + 1))), (0, .ref (h 0)), (1, .int (nI i)), (2, .int (nI 1)), (3, .int (nI ((cd (4 * i + 3)).toNatClampNeg)))] dX4_narrow_235 rfl (nI_1 v1) (by decide) rfl ?_
                                            refine k_goto F (pc := 238) 115 dX4_narrow_238 (by decide) ?_
                                            refine k_lv [(0, .ref (h 0)), (1, .int (nI i)), (2, .int (nI 1)), (3, .int (nI ((cd (4 * i + 3)).toNatClampNeg))), (4, .int (nI (v1 + 1)))] [1, 2, 3, 4, 0] rfl ?_
                                            exact ih115 (v1 + 1) nlo_35 nhi_37 (by omega) (by omega) (by exact take_step (u := nloB (non3 ((cd (4 * i + 3)).toNatClampNeg)) false) (lf := fun v => tlo1_16 (4 * 1 + v)) hlo1 (by first | exact nloB_n (by assumption) (by assumption) | exact nloB_k (by assumption) (by assumption) | exact nloB_f (by assumption) (by assumption) rfl (by assumption))) (by exact take_step (u := nhiB (non3 ((cd (4 * i + 3)).toNatClampNeg)) false) (lf := fun v => thi1_17 (4 * 1 + v)) hhi1 (by first | exact nhiB_n (by assumption) (by assumption) | exact nhiB_k (by assumption) (by assumption) | exact nhiB_f (by assumption) (by assumption) rfl (by assumption)))
                                          · skip
                                            exact absurd (c_34.symm.trans c_36) (by decide)
                                        · skip
                                          refine k_aload_n F (pc := 130) 0 rfl dX4_narrow_130 rfl ?_
                                          refine k_get F (pc := 131) (ref := RX4) (C := RX4) (T := TX4) (N := 15) (ci := 4) 0 11 dX4_narrow_131 zin_X4_narrow_X4 rfl rfl (by decide) zm_X4_narrow_f36 rfl rfl ?_
                                          refine k_iconst F (pc := 134) ((nI 4)) dX4_narrow_134 (by decide) ?_
                                          refine k_iload_n F (pc := 135) 2 rfl dX4_narrow_135 rfl ?_
                                          refine k_imulC F (pc := 136) dX4_narrow_136 ?_
                                          refine k_iload F (pc := 137) 4 rfl dX4_narrow_137 ?_
                                          refine k_iaddN F (pc := 139) dX4_narrow_139 ?_
                                          refine k_lald F (pc := 140) 9 dX4_narrow_140 rfl (by omega) (by decide) ?_
                                          refine k_aload_n F (pc := 141) 0 rfl dX4_narrow_141 rfl ?_
                                          refine k_get F (pc := 142) (ref := RX4) (C := RX4) (T := TX4) (N := 15) (ci := 4) 0 8 dX4_narrow_142 zin_X4_narrow_X4 rfl rfl (by decide) zm_X4_narrow_f27 rfl rfl ?_
                                          refine k_iconst F (pc := 145) ((nI 4)) dX4_narrow_145 (by decide) ?_
                                          refine k_iload_n F (pc := 146) 3 rfl dX4_narrow_146 rfl ?_
                                          refine k_imulN F (pc := 147) dX4_narrow_147 ?_
                                          refine k_iload F (pc := 148) 4 rfl dX4_narrow_148 ?_
                                          refine k_iaddN F (pc := 150) dX4_narrow_150 ?_
                                          refine k_lald F (pc := 151) 6 dX4_narrow_151 rfl (by omega) (by decide) ?_
                                          refine k_lcmp_ge F (pc := 152) 178 dX4_narrow_152 dX4_narrow_153 (by decide) (fun c_38 => ?_) (fun c_38 => ?_)
                                          · skip
                                            refine k_aload_n F (pc := 178) 0 rfl dX4_narrow_178 rfl ?_
                                            refine k_get F (pc := 179) (ref := RX4) (C := RX4) (T := TX4) (N := 15) (ci := 4) 0 7 dX4_narrow_179 zin_X4_narrow_X4 rfl rfl (by decide) zm_X4_narrow_f24 rfl rfl ?_
                                            refine k_iload_n F (pc := 182) 3 rfl dX4_narrow_182 rfl ?_
                                            refine k_zald F (pc := 183) 5 dX4_narrow_183 rfl (by omega) (by decide) ?_
                                            refine k_if_eqB F (pc := 184) 213 dX4_narrow_184 (by decide) (fun c_39 => ?_) (fun c_39 => ?_)
                                            · skip
                                              exact absurd (c_34.symm.trans c_39) (by decide)
                                            · skip
                                              refine k_aload_n F (pc := 187) 0 rfl dX4_narrow_187 rfl ?_
                                              refine k_get F (pc := 188) (ref := RX4) (C := RX4) (T := TX4) (N := 15) (ci := 4) 0 12 dX4_narrow_188 zin_X4_narrow_X4 rfl rfl (by decide) zm_X4_narrow_f39 rfl rfl ?_
                                              refine k_iconst F (pc := 191) ((nI 4)) dX4_narrow_191 (by decide) ?_
                                              refine k_iload_n F (pc := 192) 2 rfl dX4_narrow_192 rfl ?_
                                              refine k_imulC F (pc := 193) dX4_narrow_193 ?_
                                              refine k_iload F (pc := 194) 4 rfl dX4_narrow_194 ?_
                                              refine k_iaddN F (pc := 196) dX4_narrow_196 ?_
                                              refine k_lald F (pc := 197) 10 dX4_narrow_197 rfl (by omega) (by decide) ?_
                                              refine k_aload_n F (pc := 198) 0 rfl dX4_narrow_198 rfl ?_
                                              refine k_get F (pc := 199) (ref := RX4) (C := RX4) (T := TX4) (N := 15) (ci := 4) 0 9 dX4_narrow_199 zin_X4_narrow_X4 rfl rfl (by decide) zm_X4_narrow_f30 rfl rfl ?_
                                              refine k_iconst F (pc := 202) ((nI 4)) dX4_narrow_202 (by decide) ?_
                                              refine k_iload_n F (pc := 203) 3 rfl dX4_narrow_203 rfl ?_
                                              refine k_imulN F (pc := 204) dX4_narrow_204 ?_
                                              refine k_iload F (pc := 205) 4 rfl dX4_narrow_205 ?_
                                              refine k_iaddN F (pc := 207) dX4_narrow_207 ?_
                                              refine k_lald F (pc := 208) 7 dX4_narrow_208 rfl (by omega) (by decide) ?_
                                              refine k_lcmp_le F (pc := 209) 235 dX4_narrow_209 dX4_narrow_210 (by decide) (fun c_40 => ?_) (fun c_40 => ?_)
                                              · skip
                                                refine k_iinc F (pc := 235) 4 ((nI (v1 + 1))) [(4, .int (nI (v1 + 1))), (0, .ref (h 0)), (1, .int (nI i)), (2, .int (nI 1)), (3, .int (nI ((cd (4 * i + 3)).toNatClampNeg)))] dX4_narrow_235 rfl (nI_1 v1) (by decide) rfl ?_
                                                refine k_goto F (pc := 238) 115 dX4_narrow_238 (by decide) ?_
                                                refine k_lv [(0, .ref (h 0)), (1, .int (nI i)), (2, .int (nI 1)), (3, .int (nI ((cd (4 * i + 3)).toNatClampNeg))), (4, .int (nI (v1 + 1)))] [1, 2, 3, 4, 0] rfl ?_
                                                exact ih115 (v1 + 1) nl41 nh41 (by omega) (by omega) (by exact take_step (u := nloB (non3 ((cd (4 * i + 3)).toNatClampNeg)) false) (lf := fun v => tlo1_16 (4 * 1 + v)) hlo1 (by first | exact nloB_n (by assumption) (by assumption) | exact nloB_k (by assumption) (by assumption) | exact nloB_f (by assumption) (by assumption) rfl (by assumption))) (by exact take_step (u := nhiB (non3 ((cd (4 * i + 3)).toNatClampNeg)) false) (lf := fun v => thi1_17 (4 * 1 + v)) hhi1 (by first | exact nhiB_n (by assumption) (by assumption) | exact nhiB_k (by assumption) (by assumption) | exact nhiB_f (by assumption) (by assumption) rfl (by assumption)))
                                              · skip
                                                refine k_aload_n F (pc := 213) 0 rfl dX4_narrow_213 rfl ?_
                                                refine k_get F (pc := 214) (ref := RX4) (C := RX4) (T := TX4) (N := 15) (ci := 4) 0 9 dX4_narrow_214 zin_X4_narrow_X4 rfl rfl (by decide) zm_X4_narrow_f30 rfl rfl ?_
                                                refine k_iconst F (pc := 217) ((nI 4)) dX4_narrow_217 (by decide) ?_
                                                refine k_iload_n F (pc := 218) 3 rfl dX4_narrow_218 rfl ?_
                                                refine k_imulN F (pc := 219) dX4_narrow_219 ?_
                                                refine k_iload F (pc := 220) 4 rfl dX4_narrow_220 ?_
                                                refine k_iaddN F (pc := 222) dX4_narrow_222 ?_
                                                refine k_aload_n F (pc := 223) 0 rfl dX4_narrow_223 rfl ?_
                                                refine k_get F (pc := 224) (ref := RX4) (C := RX4) (T := TX4) (N := 15) (ci := 4) 0 12 dX4_narrow_224 zin_X4_narrow_X4 rfl rfl (by decide) zm_X4_narrow_f39 rfl rfl ?_
                                                refine k_iconst F (pc := 227) ((nI 4)) dX4_narrow_227 (by decide) ?_
                                                refine k_iload_n F (pc := 228) 2 rfl dX4_narrow_228 rfl ?_
                                                refine k_imulC F (pc := 229) dX4_narrow_229 ?_
                                                refine k_iload F (pc := 230) 4 rfl dX4_narrow_230 ?_
                                                refine k_iaddN F (pc := 232) dX4_narrow_232 ?_
                                                refine k_lald F (pc := 233) 10 dX4_narrow_233 rfl (by omega) (by decide) ?_
                                                refine k_last F (pc := 234) 7 (fun nhi_41 => (wX4 E h cd n rt sc on lo hi non3 nl41 nhi_41 fl1_15 tlo1_16 thi1_17 le1_18 gr1_19)) dX4_narrow_234 rfl (by omega) (by decide) (fun _ => rfl) (fun nhi_41 enhi_41 => ?_)
                                                refine k_iinc F (pc := 235) 4 ((nI (v1 + 1))) [(4, .int (nI (v1 + 1))), (0, .ref (h 0)), (1, .int (nI i)), (2, .int (nI 1)), (3, .int (nI ((cd (4 * i + 3)).toNatClampNeg)))] dX4_narrow_235 rfl (nI_1 v1) (by decide) rfl ?_
                                                refine k_goto F (pc := 238) 115 dX4_narrow_238 (by decide) ?_
                                                refine k_lv [(0, .ref (h 0)), (1, .int (nI i)), (2, .int (nI 1)), (3, .int (nI ((cd (4 * i + 3)).toNatClampNeg))), (4, .int (nI (v1 + 1)))] [1, 2, 3, 4, 0] rfl ?_
                                                exact ih115 (v1 + 1) nl41 nhi_41 (by omega) (by omega) (by exact take_step (u := nloB (non3 ((cd (4 * i + 3)).toNatClampNeg)) false) (lf := fun v => tlo1_16 (4 * 1 + v)) hlo1 (by first | exact nloB_n (by assumption) (by assumption) | exact nloB_k (by assumption) (by assumption) | exact nloB_f (by assumption) (by assumption) rfl (by assumption))) (by exact take_step (u := nhiB (non3 ((cd (4 * i + 3)).toNatClampNeg)) false) (lf := fun v => thi1_17 (4 * 1 + v)) hhi1 (by first | exact nhiB_n (by assumption) (by assumption) | exact nhiB_k (by assumption) (by assumption) | exact nhiB_f (by assumption) (by assumption) rfl (by assumption)))
                                          · skip
                                            refine k_aload_n F (pc := 156) 0 rfl dX4_narrow_156 rfl ?_
                                            refine k_get F (pc := 157) (ref := RX4) (C := RX4) (T := TX4) (N := 15) (ci := 4) 0 8 dX4_narrow_157 zin_X4_narrow_X4 rfl rfl (by decide) zm_X4_narrow_f27 rfl rfl ?_
                                            refine k_iconst F (pc := 160) ((nI 4)) dX4_narrow_160 (by decide) ?_
                                            refine k_iload_n F (pc := 161) 3 rfl dX4_narrow_161 rfl ?_
                                            refine k_imulN F (pc := 162) dX4_narrow_162 ?_
                                            refine k_iload F (pc := 163) 4 rfl dX4_narrow_163 ?_
                                            refine k_iaddN F (pc := 165) dX4_narrow_165 ?_
                                            refine k_aload_n F (pc := 166) 0 rfl dX4_narrow_166 rfl ?_
                                            refine k_get F (pc := 167) (ref := RX4) (C := RX4) (T := TX4) (N := 15) (ci := 4) 0 11 dX4_narrow_167 zin_X4_narrow_X4 rfl rfl (by decide) zm_X4_narrow_f36 rfl rfl ?_
                                            refine k_iconst F (pc := 170) ((nI 4)) dX4_narrow_170 (by decide) ?_
                                            refine k_iload_n F (pc := 171) 2 rfl dX4_narrow_171 rfl ?_
                                            refine k_imulC F (pc := 172) dX4_narrow_172 ?_
                                            refine k_iload F (pc := 173) 4 rfl dX4_narrow_173 ?_
                                            refine k_iaddN F (pc := 175) dX4_narrow_175 ?_
                                            refine k_lald F (pc := 176) 9 dX4_narrow_176 rfl (by omega) (by decide) ?_
                                            refine k_last F (pc := 177) 6 (fun nlo_42 => (wX4 E h cd n rt sc on lo hi non3 nlo_42 nh41 fl1_15 tlo1_16 thi1_17 le1_18 gr1_19)) dX4_narrow_177 rfl (by omega) (by decide) (fun _ => rfl) (fun nlo_42 enlo_42 => ?_)
                                            refine k_aload_n F (pc := 178) 0 rfl dX4_narrow_178 rfl ?_
                                            refine k_get F (pc := 179) (ref := RX4) (C := RX4) (T := TX4) (N := 15) (ci := 4) 0 7 dX4_narrow_179 zin_X4_narrow_X4 rfl rfl (by decide) zm_X4_narrow_f24 rfl rfl ?_
                                            refine k_iload_n F (pc := 182) 3 rfl dX4_narrow_182 rfl ?_
                                            refine k_zald F (pc := 183) 5 dX4_narrow_183 rfl (by omega) (by decide) ?_
                                            refine k_if_eqB F (pc := 184) 213 dX4_narrow_184 (by decide) (fun c_43 => ?_) (fun c_43 => ?_)
                                            · skip
                                              exact absurd (c_34.symm.trans c_43) (by decide)
                                            · skip
                                              refine k_aload_n F (pc := 187) 0 rfl dX4_narrow_187 rfl ?_
                                              refine k_get F (pc := 188) (ref := RX4) (C := RX4) (T := TX4) (N := 15) (ci := 4) 0 12 dX4_narrow_188 zin_X4_narrow_X4 rfl rfl (by decide) zm_X4_narrow_f39 rfl rfl ?_
                                              refine k_iconst F (pc := 191) ((nI 4)) dX4_narrow_191 (by decide) ?_
                                              refine k_iload_n F (pc := 192) 2 rfl dX4_narrow_192 rfl ?_
                                              refine k_imulC F (pc := 193) dX4_narrow_193 ?_
                                              refine k_iload F (pc := 194) 4 rfl dX4_narrow_194 ?_
                                              refine k_iaddN F (pc := 196) dX4_narrow_196 ?_
                                              refine k_lald F (pc := 197) 10 dX4_narrow_197 rfl (by omega) (by decide) ?_
                                              refine k_aload_n F (pc := 198) 0 rfl dX4_narrow_198 rfl ?_
                                              refine k_get F (pc := 199) (ref := RX4) (C := RX4) (T := TX4) (N := 15) (ci := 4) 0 9 dX4_narrow_199 zin_X4_narrow_X4 rfl rfl (by decide) zm_X4_narrow_f30 rfl rfl ?_
                                              refine k_iconst F (pc := 202) ((nI 4)) dX4_narrow_202 (by decide) ?_
                                              refine k_iload_n F (pc := 203) 3 rfl dX4_narrow_203 rfl ?_
                                              refine k_imulN F (pc := 204) dX4_narrow_204 ?_
                                              refine k_iload F (pc := 205) 4 rfl dX4_narrow_205 ?_
                                              refine k_iaddN F (pc := 207) dX4_narrow_207 ?_
                                              refine k_lald F (pc := 208) 7 dX4_narrow_208 rfl (by omega) (by decide) ?_
                                              refine k_lcmp_le F (pc := 209) 235 dX4_narrow_209 dX4_narrow_210 (by decide) (fun c_44 => ?_) (fun c_44 => ?_)
                                              · skip
                                                refine k_iinc F (pc := 235) 4 ((nI (v1 + 1))) [(4, .int (nI (v1 + 1))), (0, .ref (h 0)), (1, .int (nI i)), (2, .int (nI 1)), (3, .int (nI ((cd (4 * i + 3)).toNatClampNeg)))] dX4_narrow_235 rfl (nI_1 v1) (by decide) rfl ?_
                                                refine k_goto F (pc := 238) 115 dX4_narrow_238 (by decide) ?_
                                                refine k_lv [(0, .ref (h 0)), (1, .int (nI i)), (2, .int (nI 1)), (3, .int (nI ((cd (4 * i + 3)).toNatClampNeg))), (4, .int (nI (v1 + 1)))] [1, 2, 3, 4, 0] rfl ?_
                                                exact ih115 (v1 + 1) nlo_42 nh41 (by omega) (by omega) (by exact take_step (u := nloB (non3 ((cd (4 * i + 3)).toNatClampNeg)) false) (lf := fun v => tlo1_16 (4 * 1 + v)) hlo1 (by first | exact nloB_n (by assumption) (by assumption) | exact nloB_k (by assumption) (by assumption) | exact nloB_f (by assumption) (by assumption) rfl (by assumption))) (by exact take_step (u := nhiB (non3 ((cd (4 * i + 3)).toNatClampNeg)) false) (lf := fun v => thi1_17 (4 * 1 + v)) hhi1 (by first | exact nhiB_n (by assumption) (by assumption) | exact nhiB_k (by assumption) (by assumption) | exact nhiB_f (by assumption) (by assumption) rfl (by assumption)))
                                              · skip
                                                refine k_aload_n F (pc := 213) 0 rfl dX4_narrow_213 rfl ?_
                                                refine k_get F (pc := 214) (ref := RX4) (C := RX4) (T := TX4) (N := 15) (ci := 4) 0 9 dX4_narrow_214 zin_X4_narrow_X4 rfl rfl (by decide) zm_X4_narrow_f30 rfl rfl ?_
                                                refine k_iconst F (pc := 217) ((nI 4)) dX4_narrow_217 (by decide) ?_
                                                refine k_iload_n F (pc := 218) 3 rfl dX4_narrow_218 rfl ?_
                                                refine k_imulN F (pc := 219) dX4_narrow_219 ?_
                                                refine k_iload F (pc := 220) 4 rfl dX4_narrow_220 ?_
                                                refine k_iaddN F (pc := 222) dX4_narrow_222 ?_
                                                refine k_aload_n F (pc := 223) 0 rfl dX4_narrow_223 rfl ?_
                                                refine k_get F (pc := 224) (ref := RX4) (C := RX4) (T := TX4) (N := 15) (ci := 4) 0 12 dX4_narrow_224 zin_X4_narrow_X4 rfl rfl (by decide) zm_X4_narrow_f39 rfl rfl ?_
                                                refine k_iconst F (pc := 227) ((nI 4)) dX4_narrow_227 (by decide) ?_
                                                refine k_iload_n F (pc := 228) 2 rfl dX4_narrow_228 rfl ?_
                                                refine k_imulC F (pc := 229) dX4_narrow_229 ?_
                                                refine k_iload F (pc := 230) 4 rfl dX4_narrow_230 ?_
                                                refine k_iaddN F (pc := 232) dX4_narrow_232 ?_
                                                refine k_lald F (pc := 233) 10 dX4_narrow_233 rfl (by omega) (by decide) ?_
                                                refine k_last F (pc := 234) 7 (fun nhi_45 => (wX4 E h cd n rt sc on lo hi non3 nlo_42 nhi_45 fl1_15 tlo1_16 thi1_17 le1_18 gr1_19)) dX4_narrow_234 rfl (by omega) (by decide) (fun _ => rfl) (fun nhi_45 enhi_45 => ?_)
                                                refine k_iinc F (pc := 235) 4 ((nI (v1 + 1))) [(4, .int (nI (v1 + 1))), (0, .ref (h 0)), (1, .int (nI i)), (2, .int (nI 1)), (3, .int (nI ((cd (4 * i + 3)).toNatClampNeg)))] dX4_narrow_235 rfl (nI_1 v1) (by decide) rfl ?_
                                                refine k_goto F (pc := 238) 115 dX4_narrow_238 (by decide) ?_
                                                refine k_lv [(0, .ref (h 0)), (1, .int (nI i)), (2, .int (nI 1)), (3, .int (nI ((cd (4 * i + 3)).toNatClampNeg))), (4, .int (nI (v1 + 1)))] [1, 2, 3, 4, 0] rfl ?_
                                                exact ih115 (v1 + 1) nlo_42 nhi_45 (by omega) (by omega) (by exact take_step (u := nloB (non3 ((cd (4 * i + 3)).toNatClampNeg)) false) (lf := fun v => tlo1_16 (4 * 1 + v)) hlo1 (by first | exact nloB_n (by assumption) (by assumption) | exact nloB_k (by assumption) (by assumption) | exact nloB_f (by assumption) (by assumption) rfl (by assumption))) (by exact take_step (u := nhiB (non3 ((cd (4 * i + 3)).toNatClampNeg)) false) (lf := fun v => thi1_17 (4 * 1 + v)) hhi1 (by first | exact nhiB_n (by assumption) (by assumption) | exact nhiB_k (by assumption) (by assumption) | exact nhiB_f (by assumption) (by assumption) rfl (by assumption)))
                                  refine k_lv [(0, .ref (h 0)), (1, .int (nI i)), (2, .int (nI 1)), (3, .int (nI ((cd (4 * i + 3)).toNatClampNeg))), (4, .int (nI 0))] [3, 4, 2, 1, 0] rfl ?_
                                  exact L115 (4 - 0 + 1) 0 nl3 nh3 (Nat.lt_succ_self _) (by omega) (by intro j; rw [if_neg (by omega)]) (by intro j; rw [if_neg (by omega)])
                          · skip
                            obtain ⟨T0, hF0, hTv0⟩ := FRep.some_of2 c_24 hfw.1
                            have hq0 : i + 1 < 24 := by have := fN_in hn hwh (show i < n by omega) (by rw [hF0]; simp : fN cd i X ≠ none); omega
                            refine k_aload_n F (pc := 105) 1 rfl dX4_narrow_105 rfl ?_
                            refine k_iload_n F (pc := 106) 2 rfl dX4_narrow_106 rfl ?_
                            refine k_iload_n F (pc := 107) 0 rfl dX4_narrow_107 rfl ?_
                            refine k_callV F (pc := 108) (C := RX4) (T := TX4) (N := 15) (ci := 4) [.int (nI i), .int (nI 0)] [] 2 (wX4 E h cd n rt sc on lo hi non3 nl3 nh3 fl1_15 tlo1_16 thi1_17 le1_18 gr1_19) [] [0, 1, 2, 3, 4, 5, 6, 7, 8, 9, 10] [] (m_X4_target__0 l E h cd n rt sc on lo hi non3 nl3 nh3 fl1_15 tlo1_16 thi1_17 le1_18 gr1_19 i (by omega)) dX4_narrow_108 gX4_narrow_X4_target rfl (by decide +kernel) rfl ⟨rfl, rfl⟩ (by decide) rfl (Nat.le_of_ble_eq_true rfl) (by decide) rfl rfl rfl rfl (by decide) (by decide) (by decide) ?_
                            rintro v_46 w_47 ⟨rfl, rfl⟩
                            refine k_perm (wX4 E h cd n rt sc on lo hi non3 nl3 nh3 fl1_15 tlo1_16 thi1_17 le1_18 gr1_19) [0, 1, 2, 3, 4, 5, 6, 7, 8, 9, 10] (by decide) rfl ?_
                            show kK g (wX4 E h cd n rt sc on lo hi non3 nl3 nh3 fl1_15 tlo1_16 thi1_17 le1_18 gr1_19) [(2, .int (nI 0)), (0, .ref (h 0)), (1, .int (nI i))] 0 0 111 [.int (nI (i + 1))]
                            refine k_istore_n F (pc := 111) [(3, .int (nI (i + 1))), (2, .int (nI 0)), (0, .ref (h 0)), (1, .int (nI i))] dX4_narrow_111 rfl (by decide) rfl ?_
                            refine k_iconst F (pc := 112) ((nI 0)) dX4_narrow_112 (by decide) ?_
                            refine k_istore F (pc := 113) [(4, .int (nI 0)), (3, .int (nI (i + 1))), (2, .int (nI 0)), (0, .ref (h 0)), (1, .int (nI i))] dX4_narrow_113 (by decide) rfl ?_
                            have L115 : ∀ (d_ : Nat) (v0 : Nat) (nl40 : Nat → Int64) (nh40 : Nat → Int64), 4 - v0 < d_ → (v0 ≤ 4) → (∀ j, nl40 j = if 4 * (i + 1) ≤ j ∧ j < 4 * (i + 1) + v0 then nloB (non3 (i + 1)) false (nl3 j) (tlo1_16 (4 * 0 + (j - 4 * (i + 1)))) else nl3 j) → (∀ j, nh40 j = if 4 * (i + 1) ≤ j ∧ j < 4 * (i + 1) + v0 then nhiB (non3 (i + 1)) false (nh3 j) (thi1_17 (4 * 0 + (j - 4 * (i + 1)))) else nh3 j) → kK g (wX4 E h cd n rt sc on lo hi non3 nl40 nh40 fl1_15 tlo1_16 thi1_17 le1_18 gr1_19) [(0, .ref (h 0)), (1, .int (nI i)), (2, .int (nI 0)), (3, .int (nI (i + 1))), (4, .int (nI v0))] 0 0 115 [] := by
                              intro d_
                              induction d_ with
                              | zero => intro v0 nl40 nh40 hm; exact absurd hm (Nat.not_lt_zero _)
                              | succ d_ ih115 =>
                                intro v0 nl40 nh40 hm115 hv40 hlo0 hhi0
                                refine k_iload F (pc := 115) 4 rfl dX4_narrow_115 ?_
                                refine k_iconst F (pc := 117) ((nI 4)) dX4_narrow_117 (by decide) ?_
                                refine k_icmp_ge F (pc := 118) 241 dX4_narrow_118 (by decide) (nI_toInt (by omega)) (show (nI 4 : Int32).toInt = 4 by decide) (fun c_48 => ?_) (fun c_48 => ?_)
                                · skip
                                  refine k_aload_n F (pc := 241) 0 rfl dX4_narrow_241 rfl ?_
                                  refine k_get F (pc := 242) (ref := RX4) (C := RX4) (T := TX4) (N := 15) (ci := 4) 0 7 dX4_narrow_242 zin_X4_narrow_X4 rfl rfl (by decide) zm_X4_narrow_f24 rfl rfl ?_
                                  refine k_iload_n F (pc := 245) 3 rfl dX4_narrow_245 rfl ?_
                                  refine k_iconst F (pc := 246) ((nI 1)) dX4_narrow_246 (by decide) ?_
                                  refine k_zast F (pc := 247) true 5 (fun non_49 => (wX4 E h cd n rt sc on lo hi non_49 nl40 nh40 fl1_15 tlo1_16 thi1_17 le1_18 gr1_19)) dX4_narrow_247 rfl rfl (by omega) (by decide) (fun _ => rfl) (fun non_49 enon_49 => ?_)
                                  rw [show v0 = 4 by omega] at hlo0 hhi0
                                  have hrp0 : Rep non_49 nl40 nh40 (arr (setTo cd S i) (i + 1) (some T0) false).2 := arv_rep (tl := fun v => tlo1_16 (4 * 0 + v)) (th := fun v => thi1_17 (4 * 0 + v)) hrp (by omega) (fun v hv => by simpa using hTv0 v hv) hlo0 hhi0 (by assumption)
                                  refine k_iinc F (pc := 248) 2 ((nI 1)) [(2, .int (nI 1)), (0, .ref (h 0)), (1, .int (nI i)), (3, .int (nI (i + 1))), (4, .int (nI v0))] dX4_narrow_248 rfl (nI_1 0) (by decide) rfl ?_
                                  refine k_goto F (pc := 251) 82 dX4_narrow_251 (by decide) ?_
                                  refine k_iload_n F (pc := 82) 0 rfl dX4_narrow_82 rfl ?_
                                  refine k_iconst F (pc := 83) ((nI 2)) dX4_narrow_83 (by decide) ?_
                                  refine k_icmp_ge F (pc := 84) 254 dX4_narrow_84 (by decide) (show (nI 1 : Int32).toInt = 1 by decide) (show (nI 2 : Int32).toInt = 2 by decide) (fun c_50 => ?_) (fun c_50 => ?_)
                                  · skip
                                    exact absurd c_50 (by decide)
                                  · skip
                                    refine k_aload_n F (pc := 87) 1 rfl dX4_narrow_87 rfl ?_
                                    refine k_get F (pc := 88) (ref := RX4) (C := RX4) (T := TX4) (N := 15) (ci := 4) 0 4 dX4_narrow_88 zin_X4_narrow_X4 rfl rfl (by decide) zm_X4_narrow_f13 rfl rfl ?_
                                    refine k_iload_n F (pc := 91) 2 rfl dX4_narrow_91 rfl ?_
                                    refine k_zald F (pc := 92) 2 dX4_narrow_92 rfl (by omega) (by decide) ?_
                                    refine k_if_eqB F (pc := 93) 248 dX4_narrow_93 (by decide) (fun c_51 => ?_) (fun c_51 => ?_)
                                    · skip
                                      exact absurd (c_9.symm.trans c_51) (by decide)
                                    · skip
                                      refine k_aload_n F (pc := 96) 1 rfl dX4_narrow_96 rfl ?_
                                      refine k_get F (pc := 97) (ref := RX4) (C := RX4) (T := TX4) (N := 15) (ci := 4) 0 10 dX4_narrow_97 zin_X4_narrow_X4 rfl rfl (by decide) zm_X4_narrow_f33 rfl rfl ?_
                                      refine k_iload_n F (pc := 100) 0 rfl dX4_narrow_100 rfl ?_
                                      refine k_zald F (pc := 101) 8 dX4_narrow_101 rfl (by omega) (by decide) ?_
                                      refine k_if_eqB F (pc := 102) 248 dX4_narrow_102 (by decide) (fun c_52 => ?_) (fun c_52 => ?_)
                                      · skip
                                        have hF1 : fP cd i X = none := FRep.none_of2 c_52 hfw.2
                                        refine k_iinc F (pc := 248) 0 ((nI 2)) [(2, .int (nI 2)), (0, .ref (h 0)), (1, .int (nI i)), (3, .int (nI (i + 1))), (4, .int (nI v0))] dX4_narrow_248 rfl (nI_1 1) (by decide) rfl ?_
                                        refine k_goto F (pc := 251) 82 dX4_narrow_251 (by decide) ?_
                                        refine k_iload_n F (pc := 82) 0 rfl dX4_narrow_82 rfl ?_
                                        refine k_iconst F (pc := 83) ((nI 2)) dX4_narrow_83 (by decide) ?_
                                        refine k_icmp_ge F (pc := 84) 254 dX4_narrow_84 (by decide) (show (nI 2 : Int32).toInt = 2 by decide) (show (nI 2 : Int32).toInt = 2 by decide) (fun c_53 => ?_) (fun c_53 => ?_)
                                        · skip
                                          refine k_iinc F (pc := 254) 2 ((nI (i + 1))) [(1, .int (nI (i + 1))), (2, .int (nI 2)), (0, .ref (h 0)), (3, .int (nI (i + 1))), (4, .int (nI v0))] dX4_narrow_254 rfl (nI_1 i) (by decide) rfl ?_
                                          refine k_goto F (pc := 257) 58 dX4_narrow_257 (by decide) ?_
                                          refine k_lv [(0, .ref (h 0)), (1, .int (nI (i + 1)))] [2, 0] rfl ?_
                                          exact ih58 (i + 1) non_49 nl40 nh40 fl1_15 tlo1_16 thi1_17 le1_18 gr1_19 (by omega) (by omega) (by rw [set_some hsome]; simp only [snd2, hF0, hF1, arr_none, Bool.false_and]; exact hrp0)
                                        · skip
                                          exact absurd c_53 (by decide)
                                      · skip
                                        obtain ⟨T1, hF1, hTv1⟩ := FRep.some_of2 c_52 hfw.2
                                        obtain ⟨eq1, hq1, hq2⟩ := okP_q (hok i (by omega)) (fP_op (by rw [hF1]; simp : fP cd i X ≠ none))
                                        have hdec : decide ((cd (4 * i + 3)).toInt ≤ (i : Int)) = decide ((cd (4 * i + 3)).toNatClampNeg ≤ i) := by rw [hq2]; exact decide_eq_decide.mpr (by omega)
                                        refine k_aload_n F (pc := 105) 1 rfl dX4_narrow_105 rfl ?_
                                        refine k_iload_n F (pc := 106) 2 rfl dX4_narrow_106 rfl ?_
                                        refine k_iload_n F (pc := 107) 0 rfl dX4_narrow_107 rfl ?_
                                        refine k_callV F (pc := 108) (C := RX4) (T := TX4) (N := 15) (ci := 4) [.int (nI i), .int (nI 1)] [] 2 (wX4 E h cd n rt sc on lo hi non_49 nl40 nh40 fl1_15 tlo1_16 thi1_17 le1_18 gr1_19) [] [0, 1, 2, 3, 4, 5, 6, 7, 8, 9, 10] [] (m_X4_target__1 l E h cd n rt sc on lo hi non_49 nl40 nh40 fl1_15 tlo1_16 thi1_17 le1_18 gr1_19 i (by omega)) dX4_narrow_108 gX4_narrow_X4_target rfl (by decide +kernel) rfl ⟨rfl, rfl⟩ (by decide) rfl (Nat.le_of_ble_eq_true rfl) (by decide) rfl rfl rfl rfl (by decide) (by decide) (by decide) ?_
                                        rintro v_54 w_55 ⟨rfl, rfl⟩
                                        refine k_perm (wX4 E h cd n rt sc on lo hi non_49 nl40 nh40 fl1_15 tlo1_16 thi1_17 le1_18 gr1_19) [0, 1, 2, 3, 4, 5, 6, 7, 8, 9, 10] (by decide) rfl ?_
                                        show kK g (wX4 E h cd n rt sc on lo hi non_49 nl40 nh40 fl1_15 tlo1_16 thi1_17 le1_18 gr1_19) [(2, .int (nI 1)), (0, .ref (h 0)), (1, .int (nI i)), (3, .int (nI (i + 1))), (4, .int (nI v0))] 0 0 111 [.int (cd (4 * i + 3))]
                                        refine k_topi (nI ((cd (4 * i + 3)).toNatClampNeg)) eq1 ?_
                                        refine k_istore_n F (pc := 111) [(3, .int (nI ((cd (4 * i + 3)).toNatClampNeg))), (2, .int (nI 1)), (0, .ref (h 0)), (1, .int (nI i)), (4, .int (nI v0))] dX4_narrow_111 rfl (by decide) rfl ?_
                                        refine k_iconst F (pc := 112) ((nI 0)) dX4_narrow_112 (by decide) ?_
                                        refine k_istore F (pc := 113) [(4, .int (nI 0)), (3, .int (nI ((cd (4 * i + 3)).toNatClampNeg))), (2, .int (nI 1)), (0, .ref (h 0)), (1, .int (nI i))] dX4_narrow_113 (by decide) rfl ?_
                                        have L115 : ∀ (d_ : Nat) (v1 : Nat) (nl41 : Nat → Int64) (nh41 : Nat → Int64), 4 - v1 < d_ → (v1 ≤ 4) → (∀ j, nl41 j = if 4 * ((cd (4 * i + 3)).toNatClampNeg) ≤ j ∧ j < 4 * ((cd (4 * i + 3)).toNatClampNeg) + v1 then nloB (non_49 ((cd (4 * i + 3)).toNatClampNeg)) false (nl40 j) (tlo1_16 (4 * 1 + (j - 4 * ((cd (4 * i + 3)).toNatClampNeg)))) else nl40 j) → (∀ j, nh41 j = if 4 * ((cd (4 * i + 3)).toNatClampNeg) ≤ j ∧ j < 4 * ((cd (4 * i + 3)).toNatClampNeg) + v1 then nhiB (non_49 ((cd (4 * i + 3)).toNatClampNeg)) false (nh40 j) (thi1_17 (4 * 1 + (j - 4 * ((cd (4 * i + 3)).toNatClampNeg)))) else nh40 j) → kK g (wX4 E h cd n rt sc on lo hi non_49 nl41 nh41 fl1_15 tlo1_16 thi1_17 le1_18 gr1_19) [(0, .ref (h 0)), (1, .int (nI i)), (2, .int (nI 1)), (3, .int (nI ((cd (4 * i + 3)).toNatClampNeg))), (4, .int (nI v1))] 0 0 115 [] := by
                                          intro d_
                                          induction d_ with
                                          | zero => intro v1 nl41 nh41 hm; exact absurd hm (Nat.not_lt_zero _)
                                          | succ d_ ih115 =>
                                            intro v1 nl41 nh41 hm115 hv41 hlo1 hhi1
                                            refine k_iload F (pc := 115) 4 rfl dX4_narrow_115 ?_
                                            refine k_iconst F (pc := 117) ((nI 4)) dX4_narrow_117 (by decide) ?_
                                            refine k_icmp_ge F (pc := 118) 241 dX4_narrow_118 (by decide) (nI_toInt (by omega)) (show (nI 4 : Int32).toInt = 4 by decide) (fun c_56 => ?_) (fun c_56 => ?_)
                                            · skip
                                              refine k_aload_n F (pc := 241) 0 rfl dX4_narrow_241 rfl ?_
                                              refine k_get F (pc := 242) (ref := RX4) (C := RX4) (T := TX4) (N := 15) (ci := 4) 0 7 dX4_narrow_242 zin_X4_narrow_X4 rfl rfl (by decide) zm_X4_narrow_f24 rfl rfl ?_
                                              refine k_iload_n F (pc := 245) 3 rfl dX4_narrow_245 rfl ?_
                                              refine k_iconst F (pc := 246) ((nI 1)) dX4_narrow_246 (by decide) ?_
                                              refine k_zast F (pc := 247) true 5 (fun non_57 => (wX4 E h cd n rt sc on lo hi non_57 nl41 nh41 fl1_15 tlo1_16 thi1_17 le1_18 gr1_19)) dX4_narrow_247 rfl rfl (by omega) (by decide) (fun _ => rfl) (fun non_57 enon_57 => ?_)
                                              rw [show v1 = 4 by omega] at hlo1 hhi1
                                              have hrp1 : Rep non_57 nl41 nh41 (arr (arr (setTo cd S i) (i + 1) (some T0) false).2 ((cd (4 * i + 3)).toNatClampNeg) (some T1) false).2 := arv_rep (tl := fun v => tlo1_16 (4 * 1 + v)) (th := fun v => thi1_17 (4 * 1 + v)) hrp0 (by omega) (fun v hv => hTv1 v hv) hlo1 hhi1 (by assumption)
                                              refine k_iinc F (pc := 248) 2 ((nI 2)) [(2, .int (nI 2)), (0, .ref (h 0)), (1, .int (nI i)), (3, .int (nI ((cd (4 * i + 3)).toNatClampNeg))), (4, .int (nI v1))] dX4_narrow_248 rfl (nI_1 1) (by decide) rfl ?_
                                              refine k_goto F (pc := 251) 82 dX4_narrow_251 (by decide) ?_
                                              refine k_iload_n F (pc := 82) 0 rfl dX4_narrow_82 rfl ?_
                                              refine k_iconst F (pc := 83) ((nI 2)) dX4_narrow_83 (by decide) ?_
                                              refine k_icmp_ge F (pc := 84) 254 dX4_narrow_84 (by decide) (show (nI 2 : Int32).toInt = 2 by decide) (show (nI 2 : Int32).toInt = 2 by decide) (fun c_58 => ?_) (fun c_58 => ?_)
                                              · skip
                                                refine k_iinc F (pc := 254) 2 ((nI (i + 1))) [(1, .int (nI (i + 1))), (2, .int (nI 2)), (0, .ref (h 0)), (3, .int (nI ((cd (4 * i + 3)).toNatClampNeg))), (4, .int (nI v1))] dX4_narrow_254 rfl (nI_1 i) (by decide) rfl ?_
                                                refine k_goto F (pc := 257) 58 dX4_narrow_257 (by decide) ?_
                                                refine k_lv [(0, .ref (h 0)), (1, .int (nI (i + 1)))] [2, 0] rfl ?_
                                                exact ih58 (i + 1) non_57 nl41 nh41 fl1_15 tlo1_16 thi1_17 le1_18 gr1_19 (by omega) (by omega) (by rw [set_some hsome]; simp only [snd2, hF0, hF1, arr_none, Bool.false_and]; exact hrp1)
                                              · skip
                                                exact absurd c_58 (by decide)
                                            · skip
                                              refine k_aload_n F (pc := 121) 0 rfl dX4_narrow_121 rfl ?_
                                              refine k_get F (pc := 122) (ref := RX4) (C := RX4) (T := TX4) (N := 15) (ci := 4) 0 7 dX4_narrow_122 zin_X4_narrow_X4 rfl rfl (by decide) zm_X4_narrow_f24 rfl rfl ?_
                                              refine k_iload_n F (pc := 125) 3 rfl dX4_narrow_125 rfl ?_
                                              refine k_zald F (pc := 126) 5 dX4_narrow_126 rfl (by omega) (by decide) ?_
                                              refine k_if_eqB F (pc := 127) 156 dX4_narrow_127 (by decide) (fun c_59 => ?_) (fun c_59 => ?_)
                                              · skip
                                                refine k_aload_n F (pc := 156) 0 rfl dX4_narrow_156 rfl ?_
                                                refine k_get F (pc := 157) (ref := RX4) (C := RX4) (T := TX4) (N := 15) (ci := 4) 0 8 dX4_narrow_157 zin_X4_narrow_X4 rfl rfl (by decide) zm_X4_narrow_f27 rfl rfl ?_
                                                refine k_iconst F (pc := 160) ((nI 4)) dX4_narrow_160 (by decide) ?_
                                                refine k_iload_n F (pc := 161) 3 rfl dX4_narrow_161 rfl ?_
                                                refine k_imulN F (pc := 162) dX4_narrow_162 ?_
                                                refine k_iload F (pc := 163) 4 rfl dX4_narrow_163 ?_
                                                refine k_iaddN F (pc := 165) dX4_narrow_165 ?_
                                                refine k_aload_n F (pc := 166) 0 rfl dX4_narrow_166 rfl ?_
                                                refine k_get F (pc := 167) (ref := RX4) (C := RX4) (T := TX4) (N := 15) (ci := 4) 0 11 dX4_narrow_167 zin_X4_narrow_X4 rfl rfl (by decide) zm_X4_narrow_f36 rfl rfl ?_
                                                refine k_iconst F (pc := 170) ((nI 4)) dX4_narrow_170 (by decide) ?_
                                                refine k_iload_n F (pc := 171) 2 rfl dX4_narrow_171 rfl ?_
                                                refine k_imulC F (pc := 172) dX4_narrow_172 ?_
                                                refine k_iload F (pc := 173) 4 rfl dX4_narrow_173 ?_
                                                refine k_iaddN F (pc := 175) dX4_narrow_175 ?_
                                                refine k_lald F (pc := 176) 9 dX4_narrow_176 rfl (by omega) (by decide) ?_
                                                refine k_last F (pc := 177) 6 (fun nlo_60 => (wX4 E h cd n rt sc on lo hi non_49 nlo_60 nh41 fl1_15 tlo1_16 thi1_17 le1_18 gr1_19)) dX4_narrow_177 rfl (by omega) (by decide) (fun _ => rfl) (fun nlo_60 enlo_60 => ?_)
                                                refine k_aload_n F (pc := 178) 0 rfl dX4_narrow_178 rfl ?_
                                                refine k_get F (pc := 179) (ref := RX4) (C := RX4) (T := TX4) (N := 15) (ci := 4) 0 7 dX4_narrow_179 zin_X4_narrow_X4 rfl rfl (by decide) zm_X4_narrow_f24 rfl rfl ?_
                                                refine k_iload_n F (pc := 182) 3 rfl dX4_narrow_182 rfl ?_
                                                refine k_zald F (pc := 183) 5 dX4_narrow_183 rfl (by omega) (by decide) ?_
                                                refine k_if_eqB F (pc := 184) 213 dX4_narrow_184 (by decide) (fun c_61 => ?_) (fun c_61 => ?_)
                                                · skip
                                                  refine k_aload_n F (pc := 213) 0 rfl dX4_narrow_213 rfl ?_
                                                  refine k_get F (pc := 214) (ref := RX4) (C := RX4) (T := TX4) (N := 15) (ci := 4) 0 9 dX4_narrow_214 zin_X4_narrow_X4 rfl rfl (by decide) zm_X4_narrow_f30 rfl rfl ?_
                                                  refine k_iconst F (pc := 217) ((nI 4)) dX4_narrow_217 (by decide) ?_
                                                  refine k_iload_n F (pc := 218) 3 rfl dX4_narrow_218 rfl ?_
                                                  refine k_imulN F (pc := 219) dX4_narrow_219 ?_
                                                  refine k_iload F (pc := 220) 4 rfl dX4_narrow_220 ?_
                                                  refine k_iaddN F (pc := 222) dX4_narrow_222 ?_
                                                  refine k_aload_n F (pc := 223) 0 rfl dX4_narrow_223 rfl ?_
                                                  refine k_get F (pc := 224) (ref := RX4) (C := RX4) (T := TX4) (N := 15) (ci := 4) 0 12 dX4_narrow_224 zin_X4_narrow_X4 rfl rfl (by decide) zm_X4_narrow_f39 rfl rfl ?_
                                                  refine k_iconst F (pc := 227) ((nI 4)) dX4_narrow_227 (by decide) ?_
                                                  refine k_iload_n F (pc := 228) 2 rfl dX4_narrow_228 rfl ?_
                                                  refine k_imulC F (pc := 229) dX4_narrow_229 ?_
                                                  refine k_iload F (pc := 230) 4 rfl dX4_narrow_230 ?_
                                                  refine k_iaddN F (pc := 232) dX4_narrow_232 ?_
                                                  refine k_lald F (pc := 233) 10 dX4_narrow_233 rfl (by omega) (by decide) ?_
                                                  refine k_last F (pc := 234) 7 (fun nhi_62 => (wX4 E h cd n rt sc on lo hi non_49 nlo_60 nhi_62 fl1_15 tlo1_16 thi1_17 le1_18 gr1_19)) dX4_narrow_234 rfl (by omega) (by decide) (fun _ => rfl) (fun nhi_62 enhi_62 => ?_)
                                                  refine k_iinc F (pc := 235) 4 ((nI (v1 + 1))) [(4, .int (nI (v1 + 1))), (0, .ref (h 0)), (1, .int (nI i)), (2, .int (nI 1)), (3, .int (nI ((cd (4 * i + 3)).toNatClampNeg)))] dX4_narrow_235 rfl (nI_1 v1) (by decide) rfl ?_
                                                  refine k_goto F (pc := 238) 115 dX4_narrow_238 (by decide) ?_
                                                  refine k_lv [(0, .ref (h 0)), (1, .int (nI i)), (2, .int (nI 1)), (3, .int (nI ((cd (4 * i + 3)).toNatClampNeg))), (4, .int (nI (v1 + 1)))] [1, 2, 3, 4, 0] rfl ?_
                                                  exact ih115 (v1 + 1) nlo_60 nhi_62 (by omega) (by omega) (by exact take_step (u := nloB (non_49 ((cd (4 * i + 3)).toNatClampNeg)) false) (lf := fun v => tlo1_16 (4 * 1 + v)) hlo1 (by first | exact nloB_n (by assumption) (by assumption) | exact nloB_k (by assumption) (by assumption) | exact nloB_f (by assumption) (by assumption) rfl (by assumption))) (by exact take_step (u := nhiB (non_49 ((cd (4 * i + 3)).toNatClampNeg)) false) (lf := fun v => thi1_17 (4 * 1 + v)) hhi1 (by first | exact nhiB_n (by assumption) (by assumption) | exact nhiB_k (by assumption) (by assumption) | exact nhiB_f (by assumption) (by assumption) rfl (by assumption)))
                                                · skip
                                                  exact absurd (c_59.symm.trans c_61) (by decide)
                                              · skip
                                                refine k_aload_n F (pc := 130) 0 rfl dX4_narrow_130 rfl ?_
                                                refine k_get F (pc := 131) (ref := RX4) (C := RX4) (T := TX4) (N := 15) (ci := 4) 0 11 dX4_narrow_131 zin_X4_narrow_X4 rfl rfl (by decide) zm_X4_narrow_f36 rfl rfl ?_
                                                refine k_iconst F (pc := 134) ((nI 4)) dX4_narrow_134 (by decide) ?_
                                                refine k_iload_n F (pc := 135) 2 rfl dX4_narrow_135 rfl ?_
                                                refine k_imulC F (pc := 136) dX4_narrow_136 ?_
                                                refine k_iload F (pc := 137) 4 rfl dX4_narrow_137 ?_
                                                refine k_iaddN F (pc := 139) dX4_narrow_139 ?_
                                                refine k_lald F (pc := 140) 9 dX4_narrow_140 rfl (by omega) (by decide) ?_
                                                refine k_aload_n F (pc := 141) 0 rfl dX4_narrow_141 rfl ?_
                                                refine k_get F (pc := 142) (ref := RX4) (C := RX4) (T := TX4) (N := 15) (ci := 4) 0 8 dX4_narrow_142 zin_X4_narrow_X4 rfl rfl (by decide) zm_X4_narrow_f27 rfl rfl ?_
                                                refine k_iconst F (pc := 145) ((nI 4)) dX4_narrow_145 (by decide) ?_
                                                refine k_iload_n F (pc := 146) 3 rfl dX4_narrow_146 rfl ?_
                                                refine k_imulN F (pc := 147) dX4_narrow_147 ?_
                                                refine k_iload F (pc := 148) 4 rfl dX4_narrow_148 ?_
                                                refine k_iaddN F (pc := 150) dX4_narrow_150 ?_
                                                refine k_lald F (pc := 151) 6 dX4_narrow_151 rfl (by omega) (by decide) ?_
                                                refine k_lcmp_ge F (pc := 152) 178 dX4_narrow_152 dX4_narrow_153 (by decide) (fun c_63 => ?_) (fun c_63 => ?_)
                                                · skip
                                                  refine k_aload_n F (pc := 178) 0 rfl dX4_narrow_178 rfl ?_
                                                  refine k_get F (pc := 179) (ref := RX4) (C := RX4) (T := TX4) (N := 15) (ci := 4) 0 7 dX4_narrow_179 zin_X4_narrow_X4 rfl rfl (by decide) zm_X4_narrow_f24 rfl rfl ?_
                                                  refine k_iload_n F (pc := 182) 3 rfl dX4_narrow_182 rfl ?_
                                                  refine k_zald F (pc := 183) 5 dX4_narrow_183 rfl (by omega) (by decide) ?_
                                                  refine k_if_eqB F (pc := 184) 213 dX4_narrow_184 (by decide) (fun c_64 => ?_) (fun c_64 => ?_)
                                                  · skip
                                                    exact absurd (c_59.symm.trans c_64) (by decide)
                                                  · skip
                                                    refine k_aload_n F (pc := 187) 0 rfl dX4_narrow_187 rfl ?_
                                                    refine k_get F (pc := 188) (ref := RX4) (C := RX4) (T := TX4) (N := 15) (ci := 4) 0 12 dX4_narrow_188 zin_X4_narrow_X4 rfl rfl (by decide) zm_X4_narrow_f39 rfl rfl ?_
                                                    refine k_iconst F (pc := 191) ((nI 4)) dX4_narrow_191 (by decide) ?_
                                                    refine k_iload_n F (pc := 192) 2 rfl dX4_narrow_192 rfl ?_
                                                    refine k_imulC F (pc := 193) dX4_narrow_193 ?_
                                                    refine k_iload F (pc := 194) 4 rfl dX4_narrow_194 ?_
                                                    refine k_iaddN F (pc := 196) dX4_narrow_196 ?_
                                                    refine k_lald F (pc := 197) 10 dX4_narrow_197 rfl (by omega) (by decide) ?_
                                                    refine k_aload_n F (pc := 198) 0 rfl dX4_narrow_198 rfl ?_
                                                    refine k_get F (pc := 199) (ref := RX4) (C := RX4) (T := TX4) (N := 15) (ci := 4) 0 9 dX4_narrow_199 zin_X4_narrow_X4 rfl rfl (by decide) zm_X4_narrow_f30 rfl rfl ?_
                                                    refine k_iconst F (pc := 202) ((nI 4)) dX4_narrow_202 (by decide) ?_
                                                    refine k_iload_n F (pc := 203) 3 rfl dX4_narrow_203 rfl ?_
                                                    refine k_imulN F (pc := 204) dX4_narrow_204 ?_
                                                    refine k_iload F (pc := 205) 4 rfl dX4_narrow_205 ?_
                                                    refine k_iaddN F (pc := 207) dX4_narrow_207 ?_
                                                    refine k_lald F (pc := 208) 7 dX4_narrow_208 rfl (by omega) (by decide) ?_
                                                    refine k_lcmp_le F (pc := 209) 235 dX4_narrow_209 dX4_narrow_210 (by decide) (fun c_65 => ?_) (fun c_65 => ?_)
                                                    · skip
                                                      refine k_iinc F (pc := 235) 4 ((nI (v1 + 1))) [(4, .int (nI (v1 + 1))), (0, .ref (h 0)), (1, .int (nI i)), (2, .int (nI 1)), (3, .int (nI ((cd (4 * i + 3)).toNatClampNeg)))] dX4_narrow_235 rfl (nI_1 v1) (by decide) rfl ?_
                                                      refine k_goto F (pc := 238) 115 dX4_narrow_238 (by decide) ?_
                                                      refine k_lv [(0, .ref (h 0)), (1, .int (nI i)), (2, .int (nI 1)), (3, .int (nI ((cd (4 * i + 3)).toNatClampNeg))), (4, .int (nI (v1 + 1)))] [1, 2, 3, 4, 0] rfl ?_
                                                      exact ih115 (v1 + 1) nl41 nh41 (by omega) (by omega) (by exact take_step (u := nloB (non_49 ((cd (4 * i + 3)).toNatClampNeg)) false) (lf := fun v => tlo1_16 (4 * 1 + v)) hlo1 (by first | exact nloB_n (by assumption) (by assumption) | exact nloB_k (by assumption) (by assumption) | exact nloB_f (by assumption) (by assumption) rfl (by assumption))) (by exact take_step (u := nhiB (non_49 ((cd (4 * i + 3)).toNatClampNeg)) false) (lf := fun v => thi1_17 (4 * 1 + v)) hhi1 (by first | exact nhiB_n (by assumption) (by assumption) | exact nhiB_k (by assumption) (by assumption) | exact nhiB_f (by assumption) (by assumption) rfl (by assumption)))
                                                    · skip
                                                      refine k_aload_n F (pc := 213) 0 rfl dX4_narrow_213 rfl ?_
                                                      refine k_get F (pc := 214) (ref := RX4) (C := RX4) (T := TX4) (N := 15) (ci := 4) 0 9 dX4_narrow_214 zin_X4_narrow_X4 rfl rfl (by decide) zm_X4_narrow_f30 rfl rfl ?_
                                                      refine k_iconst F (pc := 217) ((nI 4)) dX4_narrow_217 (by decide) ?_
                                                      refine k_iload_n F (pc := 218) 3 rfl dX4_narrow_218 rfl ?_
                                                      refine k_imulN F (pc := 219) dX4_narrow_219 ?_
                                                      refine k_iload F (pc := 220) 4 rfl dX4_narrow_220 ?_
                                                      refine k_iaddN F (pc := 222) dX4_narrow_222 ?_
                                                      refine k_aload_n F (pc := 223) 0 rfl dX4_narrow_223 rfl ?_
                                                      refine k_get F (pc := 224) (ref := RX4) (C := RX4) (T := TX4) (N := 15) (ci := 4) 0 12 dX4_narrow_224 zin_X4_narrow_X4 rfl rfl (by decide) zm_X4_narrow_f39 rfl rfl ?_
                                                      refine k_iconst F (pc := 227) ((nI 4)) dX4_narrow_227 (by decide) ?_
                                                      refine k_iload_n F (pc := 228) 2 rfl dX4_narrow_228 rfl ?_
                                                      refine k_imulC F (pc := 229) dX4_narrow_229 ?_
                                                      refine k_iload F (pc := 230) 4 rfl dX4_narrow_230 ?_
                                                      refine k_iaddN F (pc := 232) dX4_narrow_232 ?_
                                                      refine k_lald F (pc := 233) 10 dX4_narrow_233 rfl (by omega) (by decide) ?_
                                                      refine k_last F (pc := 234) 7 (fun nhi_66 => (wX4 E h cd n rt sc on lo hi non_49 nl41 nhi_66 fl1_15 tlo1_16 thi1_17 le1_18 gr1_19)) dX4_narrow_234 rfl (by omega) (by decide) (fun _ => rfl) (fun nhi_66 enhi_66 => ?_)
                                                      refine k_iinc F (pc := 235) 4 ((nI (v1 + 1))) [(4, .int (nI (v1 + 1))), (0, .ref (h 0)), (1, .int (nI i)), (2, .int (nI 1)), (3, .int (nI ((cd (4 * i + 3)).toNatClampNeg)))] dX4_narrow_235 rfl (nI_1 v1) (by decide) rfl ?_
                                                      refine k_goto F (pc := 238) 115 dX4_narrow_238 (by decide) ?_
                                                      refine k_lv [(0, .ref (h 0)), (1, .int (nI i)), (2, .int (nI 1)), (3, .int (nI ((cd (4 * i + 3)).toNatClampNeg))), (4, .int (nI (v1 + 1)))] [1, 2, 3, 4, 0] rfl ?_
                                                      exact ih115 (v1 + 1) nl41 nhi_66 (by omega) (by omega) (by exact take_step (u := nloB (non_49 ((cd (4 * i + 3)).toNatClampNeg)) false) (lf := fun v => tlo1_16 (4 * 1 + v)) hlo1 (by first | exact nloB_n (by assumption) (by assumption) | exact nloB_k (by assumption) (by assumption) | exact nloB_f (by assumption) (by assumption) rfl (by assumption))) (by exact take_step (u := nhiB (non_49 ((cd (4 * i + 3)).toNatClampNeg)) false) (lf := fun v => thi1_17 (4 * 1 + v)) hhi1 (by first | exact nhiB_n (by assumption) (by assumption) | exact nhiB_k (by assumption) (by assumption) | exact nhiB_f (by assumption) (by assumption) rfl (by assumption)))
                                                · skip
                                                  refine k_aload_n F (pc := 156) 0 rfl dX4_narrow_156 rfl ?_
                                                  refine k_get F (pc := 157) (ref := RX4) (C := RX4) (T := TX4) (N := 15) (ci := 4) 0 8 dX4_narrow_157 zin_X4_narrow_X4 rfl rfl (by decide) zm_X4_narrow_f27 rfl rfl ?_
                                                  refine k_iconst F (pc := 160) ((nI 4)) dX4_narrow_160 (by decide) ?_
                                                  refine k_iload_n F (pc := 161) 3 rfl dX4_narrow_161 rfl ?_
                                                  refine k_imulN F (pc := 162) dX4_narrow_162 ?_
                                                  refine k_iload F (pc := 163) 4 rfl dX4_narrow_163 ?_
                                                  refine k_iaddN F (pc := 165) dX4_narrow_165 ?_
                                                  refine k_aload_n F (pc := 166) 0 rfl dX4_narrow_166 rfl ?_
                                                  refine k_get F (pc := 167) (ref := RX4) (C := RX4) (T := TX4) (N := 15) (ci := 4) 0 11 dX4_narrow_167 zin_X4_narrow_X4 rfl rfl (by decide) zm_X4_narrow_f36 rfl rfl ?_
                                                  refine k_iconst F (pc := 170) ((nI 4)) dX4_narrow_170 (by decide) ?_
                                                  refine k_iload_n F (pc := 171) 2 rfl dX4_narrow_171 rfl ?_
                                                  refine k_imulC F (pc := 172) dX4_narrow_172 ?_
                                                  refine k_iload F (pc := 173) 4 rfl dX4_narrow_173 ?_
                                                  refine k_iaddN F (pc := 175) dX4_narrow_175 ?_
                                                  refine k_lald F (pc := 176) 9 dX4_narrow_176 rfl (by omega) (by decide) ?_
                                                  refine k_last F (pc := 177) 6 (fun nlo_67 => (wX4 E h cd n rt sc on lo hi non_49 nlo_67 nh41 fl1_15 tlo1_16 thi1_17 le1_18 gr1_19)) dX4_narrow_177 rfl (by omega) (by decide) (fun _ => rfl) (fun nlo_67 enlo_67 => ?_)
                                                  refine k_aload_n F (pc := 178) 0 rfl dX4_narrow_178 rfl ?_
                                                  refine k_get F (pc := 179) (ref := RX4) (C := RX4) (T := TX4) (N := 15) (ci := 4) 0 7 dX4_narrow_179 zin_X4_narrow_X4 rfl rfl (by decide) zm_X4_narrow_f24 rfl rfl ?_
                                                  refine k_iload_n F (pc := 182) 3 rfl dX4_narrow_182 rfl ?_
                                                  refine k_zald F (pc := 183) 5 dX4_narrow_183 rfl (by omega) (by decide) ?_
                                                  refine k_if_eqB F (pc := 184) 213 dX4_narrow_184 (by decide) (fun c_68 => ?_) (fun c_68 => ?_)
                                                  · skip
                                                    exact absurd (c_59.symm.trans c_68) (by decide)
                                                  · skip
                                                    refine k_aload_n F (pc := 187) 0 rfl dX4_narrow_187 rfl ?_
                                                    refine k_get F (pc := 188) (ref := RX4) (C := RX4) (T := TX4) (N := 15) (ci := 4) 0 12 dX4_narrow_188 zin_X4_narrow_X4 rfl rfl (by decide) zm_X4_narrow_f39 rfl rfl ?_
                                                    refine k_iconst F (pc := 191) ((nI 4)) dX4_narrow_191 (by decide) ?_
                                                    refine k_iload_n F (pc := 192) 2 rfl dX4_narrow_192 rfl ?_
                                                    refine k_imulC F (pc := 193) dX4_narrow_193 ?_
                                                    refine k_iload F (pc := 194) 4 rfl dX4_narrow_194 ?_
                                                    refine k_iaddN F (pc := 196) dX4_narrow_196 ?_
                                                    refine k_lald F (pc := 197) 10 dX4_narrow_197 rfl (by omega) (by decide) ?_
                                                    refine k_aload_n F (pc := 198) 0 rfl dX4_narrow_198 rfl ?_
                                                    refine k_get F (pc := 199) (ref := RX4) (C := RX4) (T := TX4) (N := 15) (ci := 4) 0 9 dX4_narrow_199 zin_X4_narrow_X4 rfl rfl (by decide) zm_X4_narrow_f30 rfl rfl ?_
                                                    refine k_iconst F (pc := 202) ((nI 4)) dX4_narrow_202 (by decide) ?_
                                                    refine k_iload_n F (pc := 203) 3 rfl dX4_narrow_203 rfl ?_
                                                    refine k_imulN F (pc := 204) dX4_narrow_204 ?_
                                                    refine k_iload F (pc := 205) 4 rfl dX4_narrow_205 ?_
                                                    refine k_iaddN F (pc := 207) dX4_narrow_207 ?_
                                                    refine k_lald F (pc := 208) 7 dX4_narrow_208 rfl (by omega) (by decide) ?_
                                                    refine k_lcmp_le F (pc := 209) 235 dX4_narrow_209 dX4_narrow_210 (by decide) (fun c_69 => ?_) (fun c_69 => ?_)
                                                    · skip
                                                      refine k_iinc F (pc := 235) 4 ((nI (v1 + 1))) [(4, .int (nI (v1 + 1))), (0, .ref (h 0)), (1, .int (nI i)), (2, .int (nI 1)), (3, .int (nI ((cd (4 * i + 3)).toNatClampNeg)))] dX4_narrow_235 rfl (nI_1 v1) (by decide) rfl ?_
                                                      refine k_goto F (pc := 238) 115 dX4_narrow_238 (by decide) ?_
                                                      refine k_lv [(0, .ref (h 0)), (1, .int (nI i)), (2, .int (nI 1)), (3, .int (nI ((cd (4 * i + 3)).toNatClampNeg))), (4, .int (nI (v1 + 1)))] [1, 2, 3, 4, 0] rfl ?_
                                                      exact ih115 (v1 + 1) nlo_67 nh41 (by omega) (by omega) (by exact take_step (u := nloB (non_49 ((cd (4 * i + 3)).toNatClampNeg)) false) (lf := fun v => tlo1_16 (4 * 1 + v)) hlo1 (by first | exact nloB_n (by assumption) (by assumption) | exact nloB_k (by assumption) (by assumption) | exact nloB_f (by assumption) (by assumption) rfl (by assumption))) (by exact take_step (u := nhiB (non_49 ((cd (4 * i + 3)).toNatClampNeg)) false) (lf := fun v => thi1_17 (4 * 1 + v)) hhi1 (by first | exact nhiB_n (by assumption) (by assumption) | exact nhiB_k (by assumption) (by assumption) | exact nhiB_f (by assumption) (by assumption) rfl (by assumption)))
                                                    · skip
                                                      refine k_aload_n F (pc := 213) 0 rfl dX4_narrow_213 rfl ?_
                                                      refine k_get F (pc := 214) (ref := RX4) (C := RX4) (T := TX4) (N := 15) (ci := 4) 0 9 dX4_narrow_214 zin_X4_narrow_X4 rfl rfl (by decide) zm_X4_narrow_f30 rfl rfl ?_
                                                      refine k_iconst F (pc := 217) ((nI 4)) dX4_narrow_217 (by decide) ?_
                                                      refine k_iload_n F (pc := 218) 3 rfl dX4_narrow_218 rfl ?_
                                                      refine k_imulN F (pc := 219) dX4_narrow_219 ?_
                                                      refine k_iload F (pc := 220) 4 rfl dX4_narrow_220 ?_
                                                      refine k_iaddN F (pc := 222) dX4_narrow_222 ?_
                                                      refine k_aload_n F (pc := 223) 0 rfl dX4_narrow_223 rfl ?_
                                                      refine k_get F (pc := 224) (ref := RX4) (C := RX4) (T := TX4) (N := 15) (ci := 4) 0 12 dX4_narrow_224 zin_X4_narrow_X4 rfl rfl (by decide) zm_X4_narrow_f39 rfl rfl ?_
                                                      refine k_iconst F (pc := 227) ((nI 4)) dX4_narrow_227 (by decide) ?_
                                                      refine k_iload_n F (pc := 228) 2 rfl dX4_narrow_228 rfl ?_
                                                      refine k_imulC F (pc := 229) dX4_narrow_229 ?_
                                                      refine k_iload F (pc := 230) 4 rfl dX4_narrow_230 ?_
                                                      refine k_iaddN F (pc := 232) dX4_narrow_232 ?_
                                                      refine k_lald F (pc := 233) 10 dX4_narrow_233 rfl (by omega) (by decide) ?_
                                                      refine k_last F (pc := 234) 7 (fun nhi_70 => (wX4 E h cd n rt sc on lo hi non_49 nlo_67 nhi_70 fl1_15 tlo1_16 thi1_17 le1_18 gr1_19)) dX4_narrow_234 rfl (by omega) (by decide) (fun _ => rfl) (fun nhi_70 enhi_70 => ?_)
                                                      refine k_iinc F (pc := 235) 4 ((nI (v1 + 1))) [(4, .int (nI (v1 + 1))), (0, .ref (h 0)), (1, .int (nI i)), (2, .int (nI 1)), (3, .int (nI ((cd (4 * i + 3)).toNatClampNeg)))] dX4_narrow_235 rfl (nI_1 v1) (by decide) rfl ?_
                                                      refine k_goto F (pc := 238) 115 dX4_narrow_238 (by decide) ?_
                                                      refine k_lv [(0, .ref (h 0)), (1, .int (nI i)), (2, .int (nI 1)), (3, .int (nI ((cd (4 * i + 3)).toNatClampNeg))), (4, .int (nI (v1 + 1)))] [1, 2, 3, 4, 0] rfl ?_
                                                      exact ih115 (v1 + 1) nlo_67 nhi_70 (by omega) (by omega) (by exact take_step (u := nloB (non_49 ((cd (4 * i + 3)).toNatClampNeg)) false) (lf := fun v => tlo1_16 (4 * 1 + v)) hlo1 (by first | exact nloB_n (by assumption) (by assumption) | exact nloB_k (by assumption) (by assumption) | exact nloB_f (by assumption) (by assumption) rfl (by assumption))) (by exact take_step (u := nhiB (non_49 ((cd (4 * i + 3)).toNatClampNeg)) false) (lf := fun v => thi1_17 (4 * 1 + v)) hhi1 (by first | exact nhiB_n (by assumption) (by assumption) | exact nhiB_k (by assumption) (by assumption) | exact nhiB_f (by assumption) (by assumption) rfl (by assumption)))
                                        refine k_lv [(0, .ref (h 0)), (1, .int (nI i)), (2, .int (nI 1)), (3, .int (nI ((cd (4 * i + 3)).toNatClampNeg))), (4, .int (nI 0))] [3, 4, 2, 1, 0] rfl ?_
                                        exact L115 (4 - 0 + 1) 0 nl40 nh40 (Nat.lt_succ_self _) (by omega) (by intro j; rw [if_neg (by omega)]) (by intro j; rw [if_neg (by omega)])
                                · skip
                                  refine k_aload_n F (pc := 121) 0 rfl dX4_narrow_121 rfl ?_
                                  refine k_get F (pc := 122) (ref := RX4) (C := RX4) (T := TX4) (N := 15) (ci := 4) 0 7 dX4_narrow_122 zin_X4_narrow_X4 rfl rfl (by decide) zm_X4_narrow_f24 rfl rfl ?_
                                  refine k_iload_n F (pc := 125) 3 rfl dX4_narrow_125 rfl ?_
                                  refine k_zald F (pc := 126) 5 dX4_narrow_126 rfl (by omega) (by decide) ?_
                                  refine k_if_eqB F (pc := 127) 156 dX4_narrow_127 (by decide) (fun c_71 => ?_) (fun c_71 => ?_)
                                  · skip
                                    refine k_aload_n F (pc := 156) 0 rfl dX4_narrow_156 rfl ?_
                                    refine k_get F (pc := 157) (ref := RX4) (C := RX4) (T := TX4) (N := 15) (ci := 4) 0 8 dX4_narrow_157 zin_X4_narrow_X4 rfl rfl (by decide) zm_X4_narrow_f27 rfl rfl ?_
                                    refine k_iconst F (pc := 160) ((nI 4)) dX4_narrow_160 (by decide) ?_
                                    refine k_iload_n F (pc := 161) 3 rfl dX4_narrow_161 rfl ?_
                                    refine k_imulN F (pc := 162) dX4_narrow_162 ?_
                                    refine k_iload F (pc := 163) 4 rfl dX4_narrow_163 ?_
                                    refine k_iaddN F (pc := 165) dX4_narrow_165 ?_
                                    refine k_aload_n F (pc := 166) 0 rfl dX4_narrow_166 rfl ?_
                                    refine k_get F (pc := 167) (ref := RX4) (C := RX4) (T := TX4) (N := 15) (ci := 4) 0 11 dX4_narrow_167 zin_X4_narrow_X4 rfl rfl (by decide) zm_X4_narrow_f36 rfl rfl ?_
                                    refine k_iconst F (pc := 170) ((nI 4)) dX4_narrow_170 (by decide) ?_
                                    refine k_iload_n F (pc := 171) 2 rfl dX4_narrow_171 rfl ?_
                                    refine k_imulC F (pc := 172) dX4_narrow_172 ?_
                                    refine k_iload F (pc := 173) 4 rfl dX4_narrow_173 ?_
                                    refine k_iaddN F (pc := 175) dX4_narrow_175 ?_
                                    refine k_lald F (pc := 176) 9 dX4_narrow_176 rfl (by omega) (by decide) ?_
                                    refine k_last F (pc := 177) 6 (fun nlo_72 => (wX4 E h cd n rt sc on lo hi non3 nlo_72 nh40 fl1_15 tlo1_16 thi1_17 le1_18 gr1_19)) dX4_narrow_177 rfl (by omega) (by decide) (fun _ => rfl) (fun nlo_72 enlo_72 => ?_)
                                    refine k_aload_n F (pc := 178) 0 rfl dX4_narrow_178 rfl ?_
                                    refine k_get F (pc := 179) (ref := RX4) (C := RX4) (T := TX4) (N := 15) (ci := 4) 0 7 dX4_narrow_179 zin_X4_narrow_X4 rfl rfl (by decide) zm_X4_narrow_f24 rfl rfl ?_
                                    refine k_iload_n F (pc := 182) 3 rfl dX4_narrow_182 rfl ?_
                                    refine k_zald F (pc := 183) 5 dX4_narrow_183 rfl (by omega) (by decide) ?_
                                    refine k_if_eqB F (pc := 184) 213 dX4_narrow_184 (by decide) (fun c_73 => ?_) (fun c_73 => ?_)
                                    · skip
                                      refine k_aload_n F (pc := 213) 0 rfl dX4_narrow_213 rfl ?_
                                      refine k_get F (pc := 214) (ref := RX4) (C := RX4) (T := TX4) (N := 15) (ci := 4) 0 9 dX4_narrow_214 zin_X4_narrow_X4 rfl rfl (by decide) zm_X4_narrow_f30 rfl rfl ?_
                                      refine k_iconst F (pc := 217) ((nI 4)) dX4_narrow_217 (by decide) ?_
                                      refine k_iload_n F (pc := 218) 3 rfl dX4_narrow_218 rfl ?_
                                      refine k_imulN F (pc := 219) dX4_narrow_219 ?_
                                      refine k_iload F (pc := 220) 4 rfl dX4_narrow_220 ?_
                                      refine k_iaddN F (pc := 222) dX4_narrow_222 ?_
                                      refine k_aload_n F (pc := 223) 0 rfl dX4_narrow_223 rfl ?_
                                      refine k_get F (pc := 224) (ref := RX4) (C := RX4) (T := TX4) (N := 15) (ci := 4) 0 12 dX4_narrow_224 zin_X4_narrow_X4 rfl rfl (by decide) zm_X4_narrow_f39 rfl rfl ?_
                                      refine k_iconst F (pc := 227) ((nI 4)) dX4_narrow_227 (by decide) ?_
                                      refine k_iload_n F (pc := 228) 2 rfl dX4_narrow_228 rfl ?_
                                      refine k_imulC F (pc := 229) dX4_narrow_229 ?_
                                      refine k_iload F (pc := 230) 4 rfl dX4_narrow_230 ?_
                                      refine k_iaddN F (pc := 232) dX4_narrow_232 ?_
                                      refine k_lald F (pc := 233) 10 dX4_narrow_233 rfl (by omega) (by decide) ?_
                                      refine k_last F (pc := 234) 7 (fun nhi_74 => (wX4 E h cd n rt sc on lo hi non3 nlo_72 nhi_74 fl1_15 tlo1_16 thi1_17 le1_18 gr1_19)) dX4_narrow_234 rfl (by omega) (by decide) (fun _ => rfl) (fun nhi_74 enhi_74 => ?_)
                                      refine k_iinc F (pc := 235) 4 ((nI (v0 + 1))) [(4, .int (nI (v0 + 1))), (0, .ref (h 0)), (1, .int (nI i)), (2, .int (nI 0)), (3, .int (nI (i + 1)))] dX4_narrow_235 rfl (nI_1 v0) (by decide) rfl ?_
                                      refine k_goto F (pc := 238) 115 dX4_narrow_238 (by decide) ?_
                                      refine k_lv [(0, .ref (h 0)), (1, .int (nI i)), (2, .int (nI 0)), (3, .int (nI (i + 1))), (4, .int (nI (v0 + 1)))] [1, 2, 3, 4, 0] rfl ?_
                                      exact ih115 (v0 + 1) nlo_72 nhi_74 (by omega) (by omega) (by exact take_step (u := nloB (non3 (i + 1)) false) (lf := fun v => tlo1_16 (4 * 0 + v)) hlo0 (by first | exact nloB_n (by assumption) (by assumption) | exact nloB_k (by assumption) (by assumption) | exact nloB_f (by assumption) (by assumption) rfl (by assumption))) (by exact take_step (u := nhiB (non3 (i + 1)) false) (lf := fun v => thi1_17 (4 * 0 + v)) hhi0 (by first | exact nhiB_n (by assumption) (by assumption) | exact nhiB_k (by assumption) (by assumption) | exact nhiB_f (by assumption) (by assumption) rfl (by assumption)))
                                    · skip
                                      exact absurd (c_71.symm.trans c_73) (by decide)
                                  · skip
                                    refine k_aload_n F (pc := 130) 0 rfl dX4_narrow_130 rfl ?_
                                    refine k_get F (pc := 131) (ref := RX4) (C := RX4) (T := TX4) (N := 15) (ci := 4) 0 11 dX4_narrow_131 zin_X4_narrow_X4 rfl rfl (by decide) zm_X4_narrow_f36 rfl rfl ?_
                                    refine k_iconst F (pc := 134) ((nI 4)) dX4_narrow_134 (by decide) ?_
                                    refine k_iload_n F (pc := 135) 2 rfl dX4_narrow_135 rfl ?_
                                    refine k_imulC F (pc := 136) dX4_narrow_136 ?_
                                    refine k_iload F (pc := 137) 4 rfl dX4_narrow_137 ?_
                                    refine k_iaddN F (pc := 139) dX4_narrow_139 ?_
                                    refine k_lald F (pc := 140) 9 dX4_narrow_140 rfl (by omega) (by decide) ?_
                                    refine k_aload_n F (pc := 141) 0 rfl dX4_narrow_141 rfl ?_
                                    refine k_get F (pc := 142) (ref := RX4) (C := RX4) (T := TX4) (N := 15) (ci := 4) 0 8 dX4_narrow_142 zin_X4_narrow_X4 rfl rfl (by decide) zm_X4_narrow_f27 rfl rfl ?_
                                    refine k_iconst F (pc := 145) ((nI 4)) dX4_narrow_145 (by decide) ?_
                                    refine k_iload_n F (pc := 146) 3 rfl dX4_narrow_146 rfl ?_
                                    refine k_imulN F (pc := 147) dX4_narrow_147 ?_
                                    refine k_iload F (pc := 148) 4 rfl dX4_narrow_148 ?_
                                    refine k_iaddN F (pc := 150) dX4_narrow_150 ?_
                                    refine k_lald F (pc := 151) 6 dX4_narrow_151 rfl (by omega) (by decide) ?_
                                    refine k_lcmp_ge F (pc := 152) 178 dX4_narrow_152 dX4_narrow_153 (by decide) (fun c_75 => ?_) (fun c_75 => ?_)
                                    · skip
                                      refine k_aload_n F (pc := 178) 0 rfl dX4_narrow_178 rfl ?_
                                      refine k_get F (pc := 179) (ref := RX4) (C := RX4) (T := TX4) (N := 15) (ci := 4) 0 7 dX4_narrow_179 zin_X4_narrow_X4 rfl rfl (by decide) zm_X4_narrow_f24 rfl rfl ?_
                                      refine k_iload_n F (pc := 182) 3 rfl dX4_narrow_182 rfl ?_
                                      refine k_zald F (pc := 183) 5 dX4_narrow_183 rfl (by omega) (by decide) ?_
                                      refine k_if_eqB F (pc := 184) 213 dX4_narrow_184 (by decide) (fun c_76 => ?_) (fun c_76 => ?_)
                                      · skip
                                        exact absurd (c_71.symm.trans c_76) (by decide)
                                      · skip
                                        refine k_aload_n F (pc := 187) 0 rfl dX4_narrow_187 rfl ?_
                                        refine k_get F (pc := 188) (ref := RX4) (C := RX4) (T := TX4) (N := 15) (ci := 4) 0 12 dX4_narrow_188 zin_X4_narrow_X4 rfl rfl (by decide) zm_X4_narrow_f39 rfl rfl ?_
                                        refine k_iconst F (pc := 191) ((nI 4)) dX4_narrow_191 (by decide) ?_
                                        refine k_iload_n F (pc := 192) 2 rfl dX4_narrow_192 rfl ?_
                                        refine k_imulC F (pc := 193) dX4_narrow_193 ?_
                                        refine k_iload F (pc := 194) 4 rfl dX4_narrow_194 ?_
                                        refine k_iaddN F (pc := 196) dX4_narrow_196 ?_
                                        refine k_lald F (pc := 197) 10 dX4_narrow_197 rfl (by omega) (by decide) ?_
                                        refine k_aload_n F (pc := 198) 0 rfl dX4_narrow_198 rfl ?_
                                        refine k_get F (pc := 199) (ref := RX4) (C := RX4) (T := TX4) (N := 15) (ci := 4) 0 9 dX4_narrow_199 zin_X4_narrow_X4 rfl rfl (by decide) zm_X4_narrow_f30 rfl rfl ?_
                                        refine k_iconst F (pc := 202) ((nI 4)) dX4_narrow_202 (by decide) ?_
                                        refine k_iload_n F (pc := 203) 3 rfl dX4_narrow_203 rfl ?_
                                        refine k_imulN F (pc := 204) dX4_narrow_204 ?_
                                        refine k_iload F (pc := 205) 4 rfl dX4_narrow_205 ?_
                                        refine k_iaddN F (pc := 207) dX4_narrow_207 ?_
                                        refine k_lald F (pc := 208) 7 dX4_narrow_208 rfl (by omega) (by decide) ?_
                                        refine k_lcmp_le F (pc := 209) 235 dX4_narrow_209 dX4_narrow_210 (by decide) (fun c_77 => ?_) (fun c_77 => ?_)
                                        · skip
                                          refine k_iinc F (pc := 235) 4 ((nI (v0 + 1))) [(4, .int (nI (v0 + 1))), (0, .ref (h 0)), (1, .int (nI i)), (2, .int (nI 0)), (3, .int (nI (i + 1)))] dX4_narrow_235 rfl (nI_1 v0) (by decide) rfl ?_
                                          refine k_goto F (pc := 238) 115 dX4_narrow_238 (by decide) ?_
                                          refine k_lv [(0, .ref (h 0)), (1, .int (nI i)), (2, .int (nI 0)), (3, .int (nI (i + 1))), (4, .int (nI (v0 + 1)))] [1, 2, 3, 4, 0] rfl ?_
                                          exact ih115 (v0 + 1) nl40 nh40 (by omega) (by omega) (by exact take_step (u := nloB (non3 (i + 1)) false) (lf := fun v => tlo1_16 (4 * 0 + v)) hlo0 (by first | exact nloB_n (by assumption) (by assumption) | exact nloB_k (by assumption) (by assumption) | exact nloB_f (by assumption) (by assumption) rfl (by assumption))) (by exact take_step (u := nhiB (non3 (i + 1)) false) (lf := fun v => thi1_17 (4 * 0 + v)) hhi0 (by first | exact nhiB_n (by assumption) (by assumption) | exact nhiB_k (by assumption) (by assumption) | exact nhiB_f (by assumption) (by assumption) rfl (by assumption)))
                                        · skip
                                          refine k_aload_n F (pc := 213) 0 rfl dX4_narrow_213 rfl ?_
                                          refine k_get F (pc := 214) (ref := RX4) (C := RX4) (T := TX4) (N := 15) (ci := 4) 0 9 dX4_narrow_214 zin_X4_narrow_X4 rfl rfl (by decide) zm_X4_narrow_f30 rfl rfl ?_
                                          refine k_iconst F (pc := 217) ((nI 4)) dX4_narrow_217 (by decide) ?_
                                          refine k_iload_n F (pc := 218) 3 rfl dX4_narrow_218 rfl ?_
                                          refine k_imulN F (pc := 219) dX4_narrow_219 ?_
                                          refine k_iload F (pc := 220) 4 rfl dX4_narrow_220 ?_
                                          refine k_iaddN F (pc := 222) dX4_narrow_222 ?_
                                          refine k_aload_n F (pc := 223) 0 rfl dX4_narrow_223 rfl ?_
                                          refine k_get F (pc := 224) (ref := RX4) (C := RX4) (T := TX4) (N := 15) (ci := 4) 0 12 dX4_narrow_224 zin_X4_narrow_X4 rfl rfl (by decide) zm_X4_narrow_f39 rfl rfl ?_
                                          refine k_iconst F (pc := 227) ((nI 4)) dX4_narrow_227 (by decide) ?_
                                          refine k_iload_n F (pc := 228) 2 rfl dX4_narrow_228 rfl ?_
                                          refine k_imulC F (pc := 229) dX4_narrow_229 ?_
                                          refine k_iload F (pc := 230) 4 rfl dX4_narrow_230 ?_
                                          refine k_iaddN F (pc := 232) dX4_narrow_232 ?_
                                          refine k_lald F (pc := 233) 10 dX4_narrow_233 rfl (by omega) (by decide) ?_
                                          refine k_last F (pc := 234) 7 (fun nhi_78 => (wX4 E h cd n rt sc on lo hi non3 nl40 nhi_78 fl1_15 tlo1_16 thi1_17 le1_18 gr1_19)) dX4_narrow_234 rfl (by omega) (by decide) (fun _ => rfl) (fun nhi_78 enhi_78 => ?_)
                                          refine k_iinc F (pc := 235) 4 ((nI (v0 + 1))) [(4, .int (nI (v0 + 1))), (0, .ref (h 0)), (1, .int (nI i)), (2, .int (nI 0)), (3, .int (nI (i + 1)))] dX4_narrow_235 rfl (nI_1 v0) (by decide) rfl ?_
                                          refine k_goto F (pc := 238) 115 dX4_narrow_238 (by decide) ?_
                                          refine k_lv [(0, .ref (h 0)), (1, .int (nI i)), (2, .int (nI 0)), (3, .int (nI (i + 1))), (4, .int (nI (v0 + 1)))] [1, 2, 3, 4, 0] rfl ?_
                                          exact ih115 (v0 + 1) nl40 nhi_78 (by omega) (by omega) (by exact take_step (u := nloB (non3 (i + 1)) false) (lf := fun v => tlo1_16 (4 * 0 + v)) hlo0 (by first | exact nloB_n (by assumption) (by assumption) | exact nloB_k (by assumption) (by assumption) | exact nloB_f (by assumption) (by assumption) rfl (by assumption))) (by exact take_step (u := nhiB (non3 (i + 1)) false) (lf := fun v => thi1_17 (4 * 0 + v)) hhi0 (by first | exact nhiB_n (by assumption) (by assumption) | exact nhiB_k (by assumption) (by assumption) | exact nhiB_f (by assumption) (by assumption) rfl (by assumption)))
                                    · skip
                                      refine k_aload_n F (pc := 156) 0 rfl dX4_narrow_156 rfl ?_
                                      refine k_get F (pc := 157) (ref := RX4) (C := RX4) (T := TX4) (N := 15) (ci := 4) 0 8 dX4_narrow_157 zin_X4_narrow_X4 rfl rfl (by decide) zm_X4_narrow_f27 rfl rfl ?_
                                      refine k_iconst F (pc := 160) ((nI 4)) dX4_narrow_160 (by decide) ?_
                                      refine k_iload_n F (pc := 161) 3 rfl dX4_narrow_161 rfl ?_
                                      refine k_imulN F (pc := 162) dX4_narrow_162 ?_
                                      refine k_iload F (pc := 163) 4 rfl dX4_narrow_163 ?_
                                      refine k_iaddN F (pc := 165) dX4_narrow_165 ?_
                                      refine k_aload_n F (pc := 166) 0 rfl dX4_narrow_166 rfl ?_
                                      refine k_get F (pc := 167) (ref := RX4) (C := RX4) (T := TX4) (N := 15) (ci := 4) 0 11 dX4_narrow_167 zin_X4_narrow_X4 rfl rfl (by decide) zm_X4_narrow_f36 rfl rfl ?_
                                      refine k_iconst F (pc := 170) ((nI 4)) dX4_narrow_170 (by decide) ?_
                                      refine k_iload_n F (pc := 171) 2 rfl dX4_narrow_171 rfl ?_
                                      refine k_imulC F (pc := 172) dX4_narrow_172 ?_
                                      refine k_iload F (pc := 173) 4 rfl dX4_narrow_173 ?_
                                      refine k_iaddN F (pc := 175) dX4_narrow_175 ?_
                                      refine k_lald F (pc := 176) 9 dX4_narrow_176 rfl (by omega) (by decide) ?_
                                      refine k_last F (pc := 177) 6 (fun nlo_79 => (wX4 E h cd n rt sc on lo hi non3 nlo_79 nh40 fl1_15 tlo1_16 thi1_17 le1_18 gr1_19)) dX4_narrow_177 rfl (by omega) (by decide) (fun _ => rfl) (fun nlo_79 enlo_79 => ?_)
                                      refine k_aload_n F (pc := 178) 0 rfl dX4_narrow_178 rfl ?_
                                      refine k_get F (pc := 179) (ref := RX4) (C := RX4) (T := TX4) (N := 15) (ci := 4) 0 7 dX4_narrow_179 zin_X4_narrow_X4 rfl rfl (by decide) zm_X4_narrow_f24 rfl rfl ?_
                                      refine k_iload_n F (pc := 182) 3 rfl dX4_narrow_182 rfl ?_
                                      refine k_zald F (pc := 183) 5 dX4_narrow_183 rfl (by omega) (by decide) ?_
                                      refine k_if_eqB F (pc := 184) 213 dX4_narrow_184 (by decide) (fun c_80 => ?_) (fun c_80 => ?_)
                                      · skip
                                        exact absurd (c_71.symm.trans c_80) (by decide)
                                      · skip
                                        refine k_aload_n F (pc := 187) 0 rfl dX4_narrow_187 rfl ?_
                                        refine k_get F (pc := 188) (ref := RX4) (C := RX4) (T := TX4) (N := 15) (ci := 4) 0 12 dX4_narrow_188 zin_X4_narrow_X4 rfl rfl (by decide) zm_X4_narrow_f39 rfl rfl ?_
                                        refine k_iconst F (pc := 191) ((nI 4)) dX4_narrow_191 (by decide) ?_
                                        refine k_iload_n F (pc := 192) 2 rfl dX4_narrow_192 rfl ?_
                                        refine k_imulC F (pc := 193) dX4_narrow_193 ?_
                                        refine k_iload F (pc := 194) 4 rfl dX4_narrow_194 ?_
                                        refine k_iaddN F (pc := 196) dX4_narrow_196 ?_
                                        refine k_lald F (pc := 197) 10 dX4_narrow_197 rfl (by omega) (by decide) ?_
                                        refine k_aload_n F (pc := 198) 0 rfl dX4_narrow_198 rfl ?_
                                        refine k_get F (pc := 199) (ref := RX4) (C := RX4) (T := TX4) (N := 15) (ci := 4) 0 9 dX4_narrow_199 zin_X4_narrow_X4 rfl rfl (by decide) zm_X4_narrow_f30 rfl rfl ?_
                                        refine k_iconst F (pc := 202) ((nI 4)) dX4_narrow_202 (by decide) ?_
                                        refine k_iload_n F (pc := 203) 3 rfl dX4_narrow_203 rfl ?_
                                        refine k_imulN F (pc := 204) dX4_narrow_204 ?_
                                        refine k_iload F (pc := 205) 4 rfl dX4_narrow_205 ?_
                                        refine k_iaddN F (pc := 207) dX4_narrow_207 ?_
                                        refine k_lald F (pc := 208) 7 dX4_narrow_208 rfl (by omega) (by decide) ?_
                                        refine k_lcmp_le F (pc := 209) 235 dX4_narrow_209 dX4_narrow_210 (by decide) (fun c_81 => ?_) (fun c_81 => ?_)
                                        · skip
                                          refine k_iinc F (pc := 235) 4 ((nI (v0 + 1))) [(4, .int (nI (v0 + 1))), (0, .ref (h 0)), (1, .int (nI i)), (2, .int (nI 0)), (3, .int (nI (i + 1)))] dX4_narrow_235 rfl (nI_1 v0) (by decide) rfl ?_
                                          refine k_goto F (pc := 238) 115 dX4_narrow_238 (by decide) ?_
                                          refine k_lv [(0, .ref (h 0)), (1, .int (nI i)), (2, .int (nI 0)), (3, .int (nI (i + 1))), (4, .int (nI (v0 + 1)))] [1, 2, 3, 4, 0] rfl ?_
                                          exact ih115 (v0 + 1) nlo_79 nh40 (by omega) (by omega) (by exact take_step (u := nloB (non3 (i + 1)) false) (lf := fun v => tlo1_16 (4 * 0 + v)) hlo0 (by first | exact nloB_n (by assumption) (by assumption) | exact nloB_k (by assumption) (by assumption) | exact nloB_f (by assumption) (by assumption) rfl (by assumption))) (by exact take_step (u := nhiB (non3 (i + 1)) false) (lf := fun v => thi1_17 (4 * 0 + v)) hhi0 (by first | exact nhiB_n (by assumption) (by assumption) | exact nhiB_k (by assumption) (by assumption) | exact nhiB_f (by assumption) (by assumption) rfl (by assumption)))
                                        · skip
                                          refine k_aload_n F (pc := 213) 0 rfl dX4_narrow_213 rfl ?_
                                          refine k_get F (pc := 214) (ref := RX4) (C := RX4) (T := TX4) (N := 15) (ci := 4) 0 9 dX4_narrow_214 zin_X4_narrow_X4 rfl rfl (by decide) zm_X4_narrow_f30 rfl rfl ?_
                                          refine k_iconst F (pc := 217) ((nI 4)) dX4_narrow_217 (by decide) ?_
                                          refine k_iload_n F (pc := 218) 3 rfl dX4_narrow_218 rfl ?_
                                          refine k_imulN F (pc := 219) dX4_narrow_219 ?_
                                          refine k_iload F (pc := 220) 4 rfl dX4_narrow_220 ?_
                                          refine k_iaddN F (pc := 222) dX4_narrow_222 ?_
                                          refine k_aload_n F (pc := 223) 0 rfl dX4_narrow_223 rfl ?_
                                          refine k_get F (pc := 224) (ref := RX4) (C := RX4) (T := TX4) (N := 15) (ci := 4) 0 12 dX4_narrow_224 zin_X4_narrow_X4 rfl rfl (by decide) zm_X4_narrow_f39 rfl rfl ?_
                                          refine k_iconst F (pc := 227) ((nI 4)) dX4_narrow_227 (by decide) ?_
                                          refine k_iload_n F (pc := 228) 2 rfl dX4_narrow_228 rfl ?_
                                          refine k_imulC F (pc := 229) dX4_narrow_229 ?_
                                          refine k_iload F (pc := 230) 4 rfl dX4_narrow_230 ?_
                                          refine k_iaddN F (pc := 232) dX4_narrow_232 ?_
                                          refine k_lald F (pc := 233) 10 dX4_narrow_233 rfl (by omega) (by decide) ?_
                                          refine k_last F (pc := 234) 7 (fun nhi_82 => (wX4 E h cd n rt sc on lo hi non3 nlo_79 nhi_82 fl1_15 tlo1_16 thi1_17 le1_18 gr1_19)) dX4_narrow_234 rfl (by omega) (by decide) (fun _ => rfl) (fun nhi_82 enhi_82 => ?_)
                                          refine k_iinc F (pc := 235) 4 ((nI (v0 + 1))) [(4, .int (nI (v0 + 1))), (0, .ref (h 0)), (1, .int (nI i)), (2, .int (nI 0)), (3, .int (nI (i + 1)))] dX4_narrow_235 rfl (nI_1 v0) (by decide) rfl ?_
                                          refine k_goto F (pc := 238) 115 dX4_narrow_238 (by decide) ?_
                                          refine k_lv [(0, .ref (h 0)), (1, .int (nI i)), (2, .int (nI 0)), (3, .int (nI (i + 1))), (4, .int (nI (v0 + 1)))] [1, 2, 3, 4, 0] rfl ?_
                                          exact ih115 (v0 + 1) nlo_79 nhi_82 (by omega) (by omega) (by exact take_step (u := nloB (non3 (i + 1)) false) (lf := fun v => tlo1_16 (4 * 0 + v)) hlo0 (by first | exact nloB_n (by assumption) (by assumption) | exact nloB_k (by assumption) (by assumption) | exact nloB_f (by assumption) (by assumption) rfl (by assumption))) (by exact take_step (u := nhiB (non3 (i + 1)) false) (lf := fun v => thi1_17 (4 * 0 + v)) hhi0 (by first | exact nhiB_n (by assumption) (by assumption) | exact nhiB_k (by assumption) (by assumption) | exact nhiB_f (by assumption) (by assumption) rfl (by assumption)))
                            refine k_lv [(0, .ref (h 0)), (1, .int (nI i)), (2, .int (nI 0)), (3, .int (nI (i + 1))), (4, .int (nI 0))] [3, 4, 2, 1, 0] rfl ?_
                            exact L115 (4 - 0 + 1) 0 nl3 nh3 (Nat.lt_succ_self _) (by omega) (by intro j; rw [if_neg (by omega)]) (by intro j; rw [if_neg (by omega)])
              refine k_lv [(0, .ref (h 0)), (1, .int (nI 0))] [1, 0] rfl ?_
              exact L58 (n - 0 + 1) 0 non2 nl2 nh2 fl tlo thi le gr (Nat.lt_succ_self _) (by omega) (by exact rep_S0 (fun j hj => hon j (by omega)) (fun j hj => hlz j (by omega)))
            · skip
              refine k_aload_n F (pc := 36) 0 rfl dX4_narrow_36 rfl ?_
              refine k_get F (pc := 37) (ref := RX4) (C := RX4) (T := TX4) (N := 15) (ci := 4) 0 8 dX4_narrow_37 zin_X4_narrow_X4 rfl rfl (by decide) zm_X4_narrow_f27 rfl rfl ?_
              refine k_iload_n F (pc := 40) 1 rfl dX4_narrow_40 rfl ?_
              refine k_lconst F (pc := 41) 0 dX4_narrow_41 (by decide) ?_
              refine k_last F (pc := 42) 6 (fun nlo_83 => (wX4 E h cd n rt sc on lo hi non2 nlo_83 nh2 fl tlo thi le gr)) dX4_narrow_42 rfl (by omega) (by decide) (fun _ => rfl) (fun nlo_83 enlo_83 => ?_)
              refine k_aload_n F (pc := 43) 0 rfl dX4_narrow_43 rfl ?_
              refine k_get F (pc := 44) (ref := RX4) (C := RX4) (T := TX4) (N := 15) (ci := 4) 0 9 dX4_narrow_44 zin_X4_narrow_X4 rfl rfl (by decide) zm_X4_narrow_f30 rfl rfl ?_
              refine k_iload_n F (pc := 47) 1 rfl dX4_narrow_47 rfl ?_
              refine k_lconst F (pc := 48) 0 dX4_narrow_48 (by decide) ?_
              refine k_last F (pc := 49) 7 (fun nhi_84 => (wX4 E h cd n rt sc on lo hi non2 nlo_83 nhi_84 fl tlo thi le gr)) dX4_narrow_49 rfl (by omega) (by decide) (fun _ => rfl) (fun nhi_84 enhi_84 => ?_)
              refine k_iinc F (pc := 50) 1 ((nI (i + 1))) [(1, .int (nI (i + 1))), (0, .ref (h 0))] dX4_narrow_50 rfl (nI_1 i) (by decide) rfl ?_
              refine k_goto F (pc := 53) 31 dX4_narrow_53 (by decide) ?_
              refine k_lv [(0, .ref (h 0)), (1, .int (nI (i + 1)))] [1, 0] rfl ?_
              exact ih31 (i + 1) nlo_83 nhi_84 (by omega) (by omega) (by exact updL_zero hlz (by assumption) (by assumption))
        refine k_lv [(0, .ref (h 0)), (1, .int (nI 0))] [1, 0] rfl ?_
        exact L31 (4 - 0 + 1) 0 nlo nhi (Nat.lt_succ_self _) (by omega) (by intro j hj; omega)
      · skip
        refine k_aload_n F (pc := 8) 0 rfl dX4_narrow_8 rfl ?_
        refine k_get F (pc := 9) (ref := RX4) (C := RX4) (T := TX4) (N := 15) (ci := 4) 0 7 dX4_narrow_9 zin_X4_narrow_X4 rfl rfl (by decide) zm_X4_narrow_f24 rfl rfl ?_
        refine k_iload_n F (pc := 12) 1 rfl dX4_narrow_12 rfl ?_
        refine k_iload_n F (pc := 13) 1 rfl dX4_narrow_13 rfl ?_
        refine k_if_ne F (pc := 14) 21 dX4_narrow_14 (by decide) (nI_toInt (by omega)) (fun c_85 => ?_) (fun c_85 => ?_)
        · skip
          refine k_iconst F (pc := 21) ((nI 0)) dX4_narrow_21 (by decide) ?_
          refine k_zast F (pc := 22) false 5 (fun non_86 => (wX4 E h cd n rt sc on lo hi non_86 nlo nhi fl tlo thi le gr)) dX4_narrow_22 rfl rfl (by omega) (by decide) (fun _ => rfl) (fun non_86 enon_86 => ?_)
          refine k_iinc F (pc := 23) 1 ((nI (i + 1))) [(1, .int (nI (i + 1))), (0, .ref (h 0))] dX4_narrow_23 rfl (nI_1 i) (by decide) rfl ?_
          refine k_goto F (pc := 26) 2 dX4_narrow_26 (by decide) ?_
          refine k_lv [(0, .ref (h 0)), (1, .int (nI (i + 1)))] [1, 0] rfl ?_
          exact ih2 (i + 1) non_86 (by omega) (by omega) (by exact upB_step (P := fun j => decide (j = 0)) (by assumption) hon (by first | (rw [eq_comm, decide_eq_true_iff]; omega) | (rw [eq_comm, decide_eq_false_iff_not]; omega)))
        · skip
          refine k_iconst F (pc := 17) ((nI 1)) dX4_narrow_17 (by decide) ?_
          refine k_goto F (pc := 18) 22 dX4_narrow_18 (by decide) ?_
          refine k_zast F (pc := 22) true 5 (fun non_87 => (wX4 E h cd n rt sc on lo hi non_87 nlo nhi fl tlo thi le gr)) dX4_narrow_22 rfl rfl (by omega) (by decide) (fun _ => rfl) (fun non_87 enon_87 => ?_)
          refine k_iinc F (pc := 23) 1 ((nI (i + 1))) [(1, .int (nI (i + 1))), (0, .ref (h 0))] dX4_narrow_23 rfl (nI_1 i) (by decide) rfl ?_
          refine k_goto F (pc := 26) 2 dX4_narrow_26 (by decide) ?_
          refine k_lv [(0, .ref (h 0)), (1, .int (nI (i + 1)))] [1, 0] rfl ?_
          exact ih2 (i + 1) non_87 (by omega) (by omega) (by exact upB_step (P := fun j => decide (j = 0)) (by assumption) hon (by first | (rw [eq_comm, decide_eq_true_iff]; omega) | (rw [eq_comm, decide_eq_false_iff_not]; omega)))
  refine k_lv [(0, .ref (h 0)), (1, .int (nI 0))] [1, 0] rfl ?_
  exact L2 (24 - 0 + 1) 0 non (Nat.lt_succ_self _) (by omega) (by intro j hj; omega)
theorem zm_X4_scan_f57 : (Cond.fieldLink RX4 57 RX4 "scanned" "Z" : Cond) ∈ wsX4_scan := by decide +kernel
theorem zin_X4_scan_X4 : ∀ w ∈ u_ws RX4 TX4 15, w ∈ wsX4_scan := by decide +kernel
theorem zm_X4_scan_c114 : (Cond.constant RX4 114 (1000000) : Cond) ∈ wsX4_scan := by decide +kernel
theorem zm_X4_scan_f42 : (Cond.fieldLink RX4 42 RX4 "n" "I" : Cond) ∈ wsX4_scan := by decide +kernel
theorem zm_X4_scan_f61 : (Cond.fieldLink RX4 61 RX4 "rounds" "I" : Cond) ∈ wsX4_scan := by decide +kernel
theorem zm_X4_scan_f13 : (Cond.fieldLink RX4 13 RX4 "on" "[Z" : Cond) ∈ wsX4_scan := by decide +kernel
theorem zm_X4_scan_f33 : (Cond.fieldLink RX4 33 RX4 "flows" "[Z" : Cond) ∈ wsX4_scan := by decide +kernel
theorem zm_X4_scan_f17 : (Cond.fieldLink RX4 17 RX4 "lo" "[J" : Cond) ∈ wsX4_scan := by decide +kernel
theorem zm_X4_scan_f21 : (Cond.fieldLink RX4 21 RX4 "hi" "[J" : Cond) ∈ wsX4_scan := by decide +kernel
set_option maxHeartbeats 4000000 in
set_option maxRecDepth 100000 in
theorem m_X4_scan (l : Launch) (E : kE) (h : Nat → Nat) (cd : Nat → Int32) (n : Nat) (rt : Nat) (sc : Bool) (on : Nat → Bool) (lo : Nat → Int64) (hi : Nat → Int64) (non : Nat → Bool) (nlo : Nat → Int64) (nhi : Nat → Int64) (fl : Nat → Bool) (tlo : Nat → Int64) (thi : Nat → Int64) (le : Int64) (gr : Int64) (K : Nat) (hn : n ≤ 24) (hok : ∀ p, p < n → okP cd p) (hK : wholeP cd n → isK cd n K) (hoK : ∀ j k, k ≤ n → okS (rndTo cd (rndK cd n j) k).2) (hoR : ∀ j, okS (rndK cd n j)) : kC l yX4_scan wsX4_scan ({ frames := 5, cells := 0, slots := 0, locals := 138 } : Room) E [.ref (h 0)] (wX4 E h cd n rt sc on lo hi non nlo nhi fl tlo thi le gr) 0 0 (fun v_ w_ => ∃ (r : Int32) (sc1 : Bool) (rt1 : Nat) (on1 : Nat → Bool) (lo1 : Nat → Int64) (hi1 : Nat → Int64) (non1 : Nat → Bool) (nlo1 : Nat → Int64) (nhi1 : Nat → Int64) (fl1 : Nat → Bool) (tlo1 : Nat → Int64) (thi1 : Nat → Int64) (le1 : Int64) (gr1 : Int64), v_ = some (.int r) ∧ w_ = (wX4 E h cd n rt1 sc1 on1 lo1 hi1 non1 nlo1 nhi1 fl1 tlo1 thi1 le1 gr1) ∧ ((¬ wholeP cd n ∧ r = -1 ∧ sc1 = false ∧ rt1 = 0) ∨ (wholeP cd n ∧ sc1 = true ∧ rt1 = K ∧ Rep on1 lo1 hi1 (setTo cd (rndK cd n K) n) ∧ r = nI (cntV cd true n on1 lo1 hi1 n)))) := by
  refine kC.enter cX4_scan 5 (some .int) [(0, .ref (h 0))] (by decide) rfl (Nat.le_of_ble_eq_true rfl) rfl ?_
  intro g F Rr
  refine k_aload_n F (pc := 0) 0 rfl dX4_scan_0 rfl ?_
  refine k_callV F (pc := 1) (C := RX4) (T := TX4) (N := 15) (ci := 4) [] [] 0 (wX4 E h cd n rt sc on lo hi non nlo nhi fl tlo thi le gr) [] [0, 1, 2, 3, 4, 5, 6, 7, 8, 9, 10] [] (m_X4_forget l E h cd n rt sc on lo hi non nlo nhi fl tlo thi le gr) dX4_scan_1 gX4_scan_X4_forget rfl (by decide +kernel) rfl ⟨rfl, rfl⟩ (by decide) rfl (Nat.le_of_ble_eq_true rfl) (by decide) rfl rfl rfl rfl (by decide) (by decide) (by decide) ?_
  rintro v_1 w_2 ⟨rfl, rfl⟩
  refine k_perm (wX4 E h cd n 0 false on lo hi non nlo nhi fl tlo thi le gr) [0, 1, 2, 3, 4, 5, 6, 7, 8, 9, 10] (by decide) rfl ?_
  show kK g (wX4 E h cd n 0 false on lo hi non nlo nhi fl tlo thi le gr) [(0, .ref (h 0))] 0 0 4 []
  refine k_aload_n F (pc := 4) 0 rfl dX4_scan_4 rfl ?_
  refine k_callV F (pc := 5) (C := RX4) (T := TX4) (N := 15) (ci := 4) [] [] 0 (wX4 E h cd n 0 false on lo hi non nlo nhi fl tlo thi le gr) [] [0, 1, 2, 3, 4, 5, 6, 7, 8, 9, 10] [] (m_X4_whole l E h cd n 0 false on lo hi non nlo nhi fl tlo thi le gr (by omega) hok) dX4_scan_5 gX4_scan_X4_whole rfl (by decide +kernel) rfl ⟨rfl, rfl⟩ (by decide) rfl (Nat.le_of_ble_eq_true rfl) (by decide) rfl rfl rfl rfl (by decide) (by decide) (by decide) ?_
  rintro v_4 w_5 ⟨r_3, rfl, rfl, hwi⟩
  refine k_perm (wX4 E h cd n 0 false on lo hi non nlo nhi fl tlo thi le gr) [0, 1, 2, 3, 4, 5, 6, 7, 8, 9, 10] (by decide) rfl ?_
  show kK g (wX4 E h cd n 0 false on lo hi non nlo nhi fl tlo thi le gr) [(0, .ref (h 0))] 0 0 8 [.int (bI r_3)]
  refine k_if_neB F (pc := 8) 13 dX4_scan_8 (by decide) (fun c_6 => ?_) (fun c_6 => ?_)
  · skip
    have hb_7 := hwi.mp c_6
    have hw1 := hwi.mp c_6
    have hKK := hK hw1
    have hKm := hKK.2.1
    have hwh := hw1
    refine k_aload_n F (pc := 13) 0 rfl dX4_scan_13 rfl ?_
    refine k_iconst F (pc := 14) ((nI 1)) dX4_scan_14 (by decide) ?_
    refine k_put F (pc := 15) (ref := RX4) (C := RX4) (T := TX4) (N := 15) (ci := 4) (ty := .boolean) (v := .int (bI true)) tyX4 0 3 (wX4 E h cd n 0 true on lo hi non nlo nhi fl tlo thi le gr) dX4_scan_15 zin_X4_scan_X4 tyX4_ok nmX4 rfl rfl (by decide) zm_X4_scan_f57 rfl rfl (by decide +kernel) rfl rfl (Nat.le_of_ble_eq_true rfl) rfl ?_
    refine k_iconst F (pc := 18) ((nI 0)) dX4_scan_18 (by decide) ?_
    refine k_istore_n F (pc := 19) [(1, .int (nI 0)), (0, .ref (h 0))] dX4_scan_19 rfl (by decide) rfl ?_
    have L20 : ∀ (d_ : Nat) (i : Nat) (on4 : Nat → Bool), 24 - i < d_ → (i ≤ 24) → (∀ j, j < i → on4 j = decide (j = 0)) → kK g (wX4 E h cd n 0 true on4 lo hi non nlo nhi fl tlo thi le gr) [(0, .ref (h 0)), (1, .int (nI i))] 0 0 20 [] := by
      intro d_
      induction d_ with
      | zero => intro i on4 hm; exact absurd hm (Nat.not_lt_zero _)
      | succ d_ ih20 =>
        intro i on4 hm20 hi24 hon
        refine k_iload_n F (pc := 20) 1 rfl dX4_scan_20 rfl ?_
        refine k_bipush F (pc := 21) ((nI 24)) dX4_scan_21 (by decide) ?_
        refine k_icmp_ge F (pc := 23) 47 dX4_scan_23 (by decide) (nI_toInt (by omega)) (show (nI 24 : Int32).toInt = 24 by decide) (fun c_8 => ?_) (fun c_8 => ?_)
        · skip
          refine k_iconst F (pc := 47) ((nI 0)) dX4_scan_47 (by decide) ?_
          refine k_istore_n F (pc := 48) [(1, .int (nI 0)), (0, .ref (h 0))] dX4_scan_48 rfl (by decide) rfl ?_
          have L49 : ∀ (d_ : Nat) (i : Nat) (lo4 : Nat → Int64) (hi4 : Nat → Int64), 4 - i < d_ → (i ≤ 4) → (∀ j, j < i → lo4 j = 0 ∧ hi4 j = 0) → kK g (wX4 E h cd n 0 true on4 lo4 hi4 non nlo nhi fl tlo thi le gr) [(0, .ref (h 0)), (1, .int (nI i))] 0 0 49 [] := by
            intro d_
            induction d_ with
            | zero => intro i lo4 hi4 hm; exact absurd hm (Nat.not_lt_zero _)
            | succ d_ ih49 =>
              intro i lo4 hi4 hm49 hi4_ hlz
              refine k_iload_n F (pc := 49) 1 rfl dX4_scan_49 rfl ?_
              refine k_iconst F (pc := 50) ((nI 4)) dX4_scan_50 (by decide) ?_
              refine k_icmp_ge F (pc := 51) 74 dX4_scan_51 (by decide) (nI_toInt (by omega)) (show (nI 4 : Int32).toInt = 4 by decide) (fun c_9 => ?_) (fun c_9 => ?_)
              · skip
                refine k_iconst F (pc := 74) ((nI 1)) dX4_scan_74 (by decide) ?_
                refine k_istore_n F (pc := 75) [(1, .int (nI 1)), (0, .ref (h 0))] dX4_scan_75 rfl (by decide) rfl ?_
                refine k_iconst F (pc := 76) ((nI 0)) dX4_scan_76 (by decide) ?_
                refine k_istore_n F (pc := 77) [(2, .int (nI 0)), (1, .int (nI 1)), (0, .ref (h 0))] dX4_scan_77 rfl (by decide) rfl ?_
                have L78 : ∀ (d_ : Nat) (k : Nat) (ch : Bool) (rt2 : Nat) (on2 : Nat → Bool) (lo2 : Nat → Int64) (hi2 : Nat → Int64) (fl2 : Nat → Bool) (tl2 : Nat → Int64) (th2 : Nat → Int64) (le2 : Int64) (gr2 : Int64), K - k < d_ → (k ≤ K) → (rt2 = k) → (Rep on2 lo2 hi2 (rndK cd n k)) → (ch = true ↔ k < K) → kK g (wX4 E h cd n rt2 true on2 lo2 hi2 non nlo nhi fl2 tl2 th2 le2 gr2) [(0, .ref (h 0)), (1, .int (bI ch)), (2, .int (nI k))] 0 0 78 [] := by
                  intro d_
                  induction d_ with
                  | zero => intro k ch rt2 on2 lo2 hi2 fl2 tl2 th2 le2 gr2 hm; exact absurd hm (Nat.not_lt_zero _)
                  | succ d_ ih78 =>
                    intro k ch rt2 on2 lo2 hi2 fl2 tl2 th2 le2 gr2 hm78 hkK hrk hrp hch
                    refine k_iload_n F (pc := 78) 2 rfl dX4_scan_78 rfl ?_
                    refine k_ldc F (pc := 79) ((nI 1000000)) dX4_scan_79 zm_X4_scan_c114 ?_
                    refine k_icmp_ge F (pc := 81) 180 dX4_scan_81 (by decide) (nI_toInt (by omega)) (show (nI 1000000 : Int32).toInt = 1000000 by decide) (fun c_10 => ?_) (fun c_10 => ?_)
                    · skip
                      exfalso; omega
                    · skip
                      refine k_iload_n F (pc := 84) 1 rfl dX4_scan_84 rfl ?_
                      refine k_if_eqB F (pc := 85) 180 dX4_scan_85 (by decide) (fun c_11 => ?_) (fun c_11 => ?_)
                      · skip
                        have hkk := k_ff hch c_11
                        refine k_aload_n F (pc := 180) 0 rfl dX4_scan_180 rfl ?_
                        refine k_callV F (pc := 181) (C := RX4) (T := TX4) (N := 15) (ci := 4) [] [] 0 (wX4 E h cd n rt2 true on2 lo2 hi2 non nlo nhi fl2 tl2 th2 le2 gr2) [] [0, 1, 2, 3, 4, 5, 6, 7, 8, 9, 10] [] (m_X4_narrow l E h cd n rt2 true on2 lo2 hi2 non nlo nhi fl2 tl2 th2 le2 gr2 (rndK cd n K) (by omega) hok hw1 (by rw [show K = k by omega]; exact hrp) (hoR _)) dX4_scan_181 gX4_scan_X4_narrow rfl (by decide +kernel) rfl ⟨rfl, rfl⟩ (by decide) rfl (Nat.le_of_ble_eq_true rfl) (by decide) rfl rfl rfl rfl (by decide) (by decide) (by decide) ?_
                        rintro v_23 w_24 ⟨on1_12, lo1_13, hi1_14, non1_15, nlo1_16, nhi1_17, fl1_18, tlo1_19, thi1_20, le1_21, gr1_22, rfl, rfl, hna⟩
                        refine k_perm (wX4 E h cd n rt2 true on1_12 lo1_13 hi1_14 non1_15 nlo1_16 nhi1_17 fl1_18 tlo1_19 thi1_20 le1_21 gr1_22) [0, 1, 2, 3, 4, 5, 6, 7, 8, 9, 10] (by decide) rfl ?_
                        show kK g (wX4 E h cd n rt2 true on1_12 lo1_13 hi1_14 non1_15 nlo1_16 nhi1_17 fl1_18 tlo1_19 thi1_20 le1_21 gr1_22) [(0, .ref (h 0)), (1, .int (bI ch)), (2, .int (nI k))] 0 0 184 []
                        refine k_iconst F (pc := 184) ((nI 0)) dX4_scan_184 (by decide) ?_
                        refine k_istore_n F (pc := 185) [(2, .int (nI 0)), (0, .ref (h 0)), (1, .int (bI ch))] dX4_scan_185 rfl (by decide) rfl ?_
                        refine k_iconst F (pc := 186) ((nI 0)) dX4_scan_186 (by decide) ?_
                        refine k_istore_n F (pc := 187) [(3, .int (nI 0)), (2, .int (nI 0)), (0, .ref (h 0)), (1, .int (bI ch))] dX4_scan_187 rfl (by decide) rfl ?_
                        have L188 : ∀ (d_ : Nat) (i4 : Nat) (kk : Nat), n - i4 < d_ → (i4 ≤ n) → (kk = cntV cd true n on1_12 lo1_13 hi1_14 i4) → (kk ≤ i4) → kK g (wX4 E h cd n rt2 true on1_12 lo1_13 hi1_14 non1_15 nlo1_16 nhi1_17 fl1_18 tlo1_19 thi1_20 le1_21 gr1_22) [(0, .ref (h 0)), (2, .int (nI kk)), (3, .int (nI i4))] 0 0 188 [] := by
                          intro d_
                          induction d_ with
                          | zero => intro i4 kk hm; exact absurd hm (Nat.not_lt_zero _)
                          | succ d_ ih188 =>
                            intro i4 kk hm188 hi5 hcn hki
                            refine k_iload_n F (pc := 188) 2 rfl dX4_scan_188 rfl ?_
                            refine k_aload_n F (pc := 189) 0 rfl dX4_scan_189 rfl ?_
                            refine k_get F (pc := 190) (ref := RX4) (C := RX4) (T := TX4) (N := 15) (ci := 4) 0 1 dX4_scan_190 zin_X4_scan_X4 rfl rfl (by decide) zm_X4_scan_f42 rfl rfl ?_
                            refine k_icmp_ge F (pc := 193) 214 dX4_scan_193 (by decide) (nI_toInt (by omega)) (nI_toInt (by omega)) (fun c_25 => ?_) (fun c_25 => ?_)
                            · skip
                              refine k_iload_n F (pc := 214) 1 rfl dX4_scan_214 rfl ?_
                              refine k_iret F Rr (pc := 215) dX4_scan_215 ⟨(nI kk), true, rt2, on1_12, lo1_13, hi1_14, non1_15, nlo1_16, nhi1_17, fl1_18, tlo1_19, thi1_20, le1_21, gr1_22, rfl, rfl, ?_⟩
                              exact Or.inr ⟨hw1, rfl, by omega, hna, by rw [hcn, show i4 = n by omega]⟩
                            · skip
                              refine k_aload_n F (pc := 196) 0 rfl dX4_scan_196 rfl ?_
                              refine k_iload_n F (pc := 197) 2 rfl dX4_scan_197 rfl ?_
                              refine k_callV F (pc := 198) (C := RX4) (T := TX4) (N := 15) (ci := 4) [.int (nI i4)] [] 1 (wX4 E h cd n rt2 true on1_12 lo1_13 hi1_14 non1_15 nlo1_16 nhi1_17 fl1_18 tlo1_19 thi1_20 le1_21 gr1_22) [] [0, 1, 2, 3, 4, 5, 6, 7, 8, 9, 10] [] (m_X4_alarm l E h cd n rt2 true on1_12 lo1_13 hi1_14 non1_15 nlo1_16 nhi1_17 fl1_18 tlo1_19 thi1_20 le1_21 gr1_22 (nI i4) (by omega) hok) dX4_scan_198 gX4_scan_X4_alarm rfl (by decide +kernel) rfl ⟨rfl, rfl⟩ (by decide) rfl (Nat.le_of_ble_eq_true rfl) (by decide) rfl rfl rfl rfl (by decide) (by decide) (by decide) ?_
                              rintro v_27 w_28 ⟨r_26, rfl, rfl, hal⟩
                              refine k_perm (wX4 E h cd n rt2 true on1_12 lo1_13 hi1_14 non1_15 nlo1_16 nhi1_17 fl1_18 tlo1_19 thi1_20 le1_21 gr1_22) [0, 1, 2, 3, 4, 5, 6, 7, 8, 9, 10] (by decide) rfl ?_
                              show kK g (wX4 E h cd n rt2 true on1_12 lo1_13 hi1_14 non1_15 nlo1_16 nhi1_17 fl1_18 tlo1_19 thi1_20 le1_21 gr1_22) [(0, .ref (h 0)), (2, .int (nI kk)), (3, .int (nI i4))] 0 0 201 [.int r_26]
                              refine k_if_le F (pc := 201) 208 dX4_scan_201 (by decide) rfl (fun c_29 => ?_) (fun c_29 => ?_)
                              · skip
                                have hz := alm_z hal c_29
                                refine k_iinc F (pc := 208) 2 ((nI (i4 + 1))) [(3, .int (nI (i4 + 1))), (0, .ref (h 0)), (2, .int (nI kk))] dX4_scan_208 rfl (nI_1 i4) (by decide) rfl ?_
                                refine k_goto F (pc := 211) 188 dX4_scan_211 (by decide) ?_
                                refine k_lv [(0, .ref (h 0)), (2, .int (nI kk)), (3, .int (nI (i4 + 1)))] [1, 2, 0] rfl ?_
                                exact ih188 (i4 + 1) kk (by omega) (by omega) (by rw [cntV, hcn]; first | rw [if_pos hz] | rw [if_neg hz]) (by omega)
                              · skip
                                have hz := alm_nz hal c_29
                                refine k_iload_n F (pc := 204) 1 rfl dX4_scan_204 rfl ?_
                                refine k_iconst F (pc := 205) ((nI 1)) dX4_scan_205 (by decide) ?_
                                refine k_iaddN F (pc := 206) dX4_scan_206 ?_
                                refine k_istore_n F (pc := 207) [(2, .int (nI (kk + 1))), (0, .ref (h 0)), (3, .int (nI i4))] dX4_scan_207 rfl (by decide) rfl ?_
                                refine k_iinc F (pc := 208) 2 ((nI (i4 + 1))) [(3, .int (nI (i4 + 1))), (2, .int (nI (kk + 1))), (0, .ref (h 0))] dX4_scan_208 rfl (nI_1 i4) (by decide) rfl ?_
                                refine k_goto F (pc := 211) 188 dX4_scan_211 (by decide) ?_
                                refine k_lv [(0, .ref (h 0)), (2, .int (nI (kk + 1))), (3, .int (nI (i4 + 1)))] [2, 1, 0] rfl ?_
                                exact ih188 (i4 + 1) (kk + 1) (by omega) (by omega) (by rw [cntV, hcn]; first | rw [if_pos hz] | rw [if_neg hz]) (by omega)
                        refine k_lv [(0, .ref (h 0)), (2, .int (nI 0)), (3, .int (nI 0))] [2, 1, 0] rfl ?_
                        exact L188 (n - 0 + 1) 0 0 (Nat.lt_succ_self _) (by omega) (by rfl) (by omega)
                      · skip
                        have hkk := hch.mp c_11
                        refine k_iconst F (pc := 88) ((nI 0)) dX4_scan_88 (by decide) ?_
                        refine k_istore_n F (pc := 89) [(1, .int (nI 0)), (0, .ref (h 0)), (2, .int (nI k))] dX4_scan_89 rfl (by decide) rfl ?_
                        refine k_aload_n F (pc := 90) 1 rfl dX4_scan_90 rfl ?_
                        refine k_aload_n F (pc := 91) 1 rfl dX4_scan_91 rfl ?_
                        refine k_get F (pc := 92) (ref := RX4) (C := RX4) (T := TX4) (N := 15) (ci := 4) 0 2 dX4_scan_92 zin_X4_scan_X4 rfl rfl (by decide) zm_X4_scan_f61 rfl rfl ?_
                        refine k_iconst F (pc := 95) ((nI 1)) dX4_scan_95 (by decide) ?_
                        refine k_iaddN F (pc := 96) dX4_scan_96 ?_
                        refine k_put F (pc := 97) (ref := RX4) (C := RX4) (T := TX4) (N := 15) (ci := 4) (ty := .int) (v := .int (nI (rt2 + 1))) tyX4 0 2 (wX4 E h cd n (rt2 + 1) true on2 lo2 hi2 non nlo nhi fl2 tl2 th2 le2 gr2) dX4_scan_97 zin_X4_scan_X4 tyX4_ok nmX4 rfl rfl (by decide) zm_X4_scan_f61 rfl rfl (by decide +kernel) rfl rfl (Nat.le_of_ble_eq_true rfl) rfl ?_
                        refine k_iconst F (pc := 100) ((nI 0)) dX4_scan_100 (by decide) ?_
                        refine k_istore_n F (pc := 101) [(3, .int (nI 0)), (1, .int (nI 0)), (0, .ref (h 0)), (2, .int (nI k))] dX4_scan_101 rfl (by decide) rfl ?_
                        have L102 : ∀ (d_ : Nat) (i : Nat) (ch3 : Bool) (on3 : Nat → Bool) (lo3 : Nat → Int64) (hi3 : Nat → Int64) (fl3 : Nat → Bool) (tl3 : Nat → Int64) (th3 : Nat → Int64) (le3 : Int64) (gr3 : Int64), n - i < d_ → (i ≤ n) → (Rep on3 lo3 hi3 (rndTo cd (rndK cd n k) i).2) → (ch3 = (rndTo cd (rndK cd n k) i).1) → kK g (wX4 E h cd n (rt2 + 1) true on3 lo3 hi3 non nlo nhi fl3 tl3 th3 le3 gr3) [(0, .ref (h 0)), (1, .int (bI ch3)), (2, .int (nI k)), (3, .int (nI i))] 0 0 102 [] := by
                          intro d_
                          induction d_ with
                          | zero => intro i ch3 on3 lo3 hi3 fl3 tl3 th3 le3 gr3 hm; exact absurd hm (Nat.not_lt_zero _)
                          | succ d_ ih102 =>
                            intro i ch3 on3 lo3 hi3 fl3 tl3 th3 le3 gr3 hm102 hin hrp hch
                            refine k_iload_n F (pc := 102) 3 rfl dX4_scan_102 rfl ?_
                            refine k_aload_n F (pc := 103) 0 rfl dX4_scan_103 rfl ?_
                            refine k_get F (pc := 104) (ref := RX4) (C := RX4) (T := TX4) (N := 15) (ci := 4) 0 1 dX4_scan_104 zin_X4_scan_X4 rfl rfl (by decide) zm_X4_scan_f42 rfl rfl ?_
                            refine k_icmp_ge F (pc := 107) 174 dX4_scan_107 (by decide) (nI_toInt (by omega)) (nI_toInt (by omega)) (fun c_30 => ?_) (fun c_30 => ?_)
                            · skip
                              refine k_iinc F (pc := 174) 2 ((nI (k + 1))) [(2, .int (nI (k + 1))), (0, .ref (h 0)), (1, .int (bI ch3)), (3, .int (nI i))] dX4_scan_174 rfl (nI_1 k) (by decide) rfl ?_
                              refine k_goto F (pc := 177) 78 dX4_scan_177 (by decide) ?_
                              refine k_lv [(0, .ref (h 0)), (1, .int (bI ch3)), (2, .int (nI (k + 1)))] [1, 2, 0] rfl ?_
                              exact ih78 (k + 1) ch3 (rt2 + 1) on3 lo3 hi3 fl3 tl3 th3 le3 gr3 (by omega) (by omega) (by rw [hrk]) (by rw [show rndK cd n (k + 1) = (rndTo cd (rndK cd n k) n).2 from rfl]; rw [show i = n by omega] at hrp; exact hrp) (by rw [show i = n by omega] at hch; exact scan_ch (k := k + 1) hKK (by omega) (by omega) hch)
                            · skip
                              refine k_aload_n F (pc := 110) 0 rfl dX4_scan_110 rfl ?_
                              refine k_get F (pc := 111) (ref := RX4) (C := RX4) (T := TX4) (N := 15) (ci := 4) 0 4 dX4_scan_111 zin_X4_scan_X4 rfl rfl (by decide) zm_X4_scan_f13 rfl rfl ?_
                              refine k_iload_n F (pc := 114) 3 rfl dX4_scan_114 rfl ?_
                              refine k_zald F (pc := 115) 2 dX4_scan_115 rfl (by omega) (by decide) ?_
                              refine k_if_eqB F (pc := 116) 168 dX4_scan_116 (by decide) (fun c_31 => ?_) (fun c_31 => ?_)
                              · skip
                                have hnone := hrp.off (by omega) c_31
                                refine k_iinc F (pc := 168) 3 ((nI (i + 1))) [(3, .int (nI (i + 1))), (0, .ref (h 0)), (1, .int (bI ch3)), (2, .int (nI k))] dX4_scan_168 rfl (nI_1 i) (by decide) rfl ?_
                                refine k_goto F (pc := 171) 102 dX4_scan_171 (by decide) ?_
                                refine k_lv [(0, .ref (h 0)), (1, .int (bI ch3)), (2, .int (nI k)), (3, .int (nI (i + 1)))] [1, 2, 3, 0] rfl ?_
                                exact ih102 (i + 1) ch3 on3 lo3 hi3 fl3 tl3 th3 le3 gr3 (by omega) (by omega) (by rw [rnd_none hnone]; exact hrp) (by rw [rnd_none hnone]; exact hch)
                              · skip
                                obtain ⟨X, hsome, hXv⟩ := hrp.up (by omega) c_31
                                refine k_aload_n F (pc := 119) 0 rfl dX4_scan_119 rfl ?_
                                refine k_iload_n F (pc := 120) 3 rfl dX4_scan_120 rfl ?_
                                refine k_callV F (pc := 121) (C := RX4) (T := TX4) (N := 15) (ci := 4) [.int (nI i)] [] 1 (wX4 E h cd n (rt2 + 1) true on3 lo3 hi3 non nlo nhi fl3 tl3 th3 le3 gr3) [] [0, 1, 2, 3, 4, 5, 6, 7, 8, 9, 10] [] (m_X4_flow l E h cd n (rt2 + 1) true on3 lo3 hi3 non nlo nhi fl3 tl3 th3 le3 gr3 i X (by omega) (hok i (by omega)) (hoK _ _ (by omega) _ _ hsome) hXv) dX4_scan_121 gX4_scan_X4_flow rfl (by decide +kernel) rfl ⟨rfl, rfl⟩ (by decide) rfl (Nat.le_of_ble_eq_true rfl) (by decide) rfl rfl rfl rfl (by decide) (by decide) (by decide) ?_
                                rintro v_37 w_38 ⟨fl1_32, tlo1_33, thi1_34, le1_35, gr1_36, rfl, rfl, hfw⟩
                                refine k_perm (wX4 E h cd n (rt2 + 1) true on3 lo3 hi3 non nlo nhi fl1_32 tlo1_33 thi1_34 le1_35 gr1_36) [0, 1, 2, 3, 4, 5, 6, 7, 8, 9, 10] (by decide) rfl ?_
                                show kK g (wX4 E h cd n (rt2 + 1) true on3 lo3 hi3 non nlo nhi fl1_32 tlo1_33 thi1_34 le1_35 gr1_36) [(0, .ref (h 0)), (1, .int (bI ch3)), (2, .int (nI k)), (3, .int (nI i))] 0 0 124 []
                                refine k_iconst F (pc := 124) ((nI 0)) dX4_scan_124 (by decide) ?_
                                refine k_istore F (pc := 125) [(4, .int (nI 0)), (0, .ref (h 0)), (1, .int (bI ch3)), (2, .int (nI k)), (3, .int (nI i))] dX4_scan_125 (by decide) rfl ?_
                                refine k_iload F (pc := 127) 0 rfl dX4_scan_127 ?_
                                refine k_iconst F (pc := 129) ((nI 2)) dX4_scan_129 (by decide) ?_
                                refine k_icmp_ge F (pc := 130) 168 dX4_scan_130 (by decide) (show (nI 0 : Int32).toInt = 0 by decide) (show (nI 2 : Int32).toInt = 2 by decide) (fun c_39 => ?_) (fun c_39 => ?_)
                                · skip
                                  exact absurd c_39 (by decide)
                                · skip
                                  refine k_aload_n F (pc := 133) 1 rfl dX4_scan_133 rfl ?_
                                  refine k_get F (pc := 134) (ref := RX4) (C := RX4) (T := TX4) (N := 15) (ci := 4) 0 10 dX4_scan_134 zin_X4_scan_X4 rfl rfl (by decide) zm_X4_scan_f33 rfl rfl ?_
                                  refine k_iload F (pc := 137) 0 rfl dX4_scan_137 ?_
                                  refine k_zald F (pc := 139) 8 dX4_scan_139 rfl (by omega) (by decide) ?_
                                  refine k_if_eqB F (pc := 140) 162 dX4_scan_140 (by decide) (fun c_40 => ?_) (fun c_40 => ?_)
                                  · skip
                                    have hF0 : fN cd i X = none := FRep.none_of2 c_40 hfw.1
                                    refine k_iinc F (pc := 162) 0 ((nI 1)) [(4, .int (nI 1)), (0, .ref (h 0)), (1, .int (bI ch3)), (2, .int (nI k)), (3, .int (nI i))] dX4_scan_162 rfl (nI_1 0) (by decide) rfl ?_
                                    refine k_goto F (pc := 165) 127 dX4_scan_165 (by decide) ?_
                                    refine k_iload F (pc := 127) 0 rfl dX4_scan_127 ?_
                                    refine k_iconst F (pc := 129) ((nI 2)) dX4_scan_129 (by decide) ?_
                                    refine k_icmp_ge F (pc := 130) 168 dX4_scan_130 (by decide) (show (nI 1 : Int32).toInt = 1 by decide) (show (nI 2 : Int32).toInt = 2 by decide) (fun c_41 => ?_) (fun c_41 => ?_)
                                    · skip
                                      exact absurd c_41 (by decide)
                                    · skip
                                      refine k_aload_n F (pc := 133) 1 rfl dX4_scan_133 rfl ?_
                                      refine k_get F (pc := 134) (ref := RX4) (C := RX4) (T := TX4) (N := 15) (ci := 4) 0 10 dX4_scan_134 zin_X4_scan_X4 rfl rfl (by decide) zm_X4_scan_f33 rfl rfl ?_
                                      refine k_iload F (pc := 137) 0 rfl dX4_scan_137 ?_
                                      refine k_zald F (pc := 139) 8 dX4_scan_139 rfl (by omega) (by decide) ?_
                                      refine k_if_eqB F (pc := 140) 162 dX4_scan_140 (by decide) (fun c_42 => ?_) (fun c_42 => ?_)
                                      · skip
                                        have hF1 : fP cd i X = none := FRep.none_of2 c_42 hfw.2
                                        refine k_iinc F (pc := 162) 0 ((nI 2)) [(4, .int (nI 2)), (0, .ref (h 0)), (1, .int (bI ch3)), (2, .int (nI k)), (3, .int (nI i))] dX4_scan_162 rfl (nI_1 1) (by decide) rfl ?_
                                        refine k_goto F (pc := 165) 127 dX4_scan_165 (by decide) ?_
                                        refine k_iload F (pc := 127) 0 rfl dX4_scan_127 ?_
                                        refine k_iconst F (pc := 129) ((nI 2)) dX4_scan_129 (by decide) ?_
                                        refine k_icmp_ge F (pc := 130) 168 dX4_scan_130 (by decide) (show (nI 2 : Int32).toInt = 2 by decide) (show (nI 2 : Int32).toInt = 2 by decide) (fun c_43 => ?_) (fun c_43 => ?_)
                                        · skip
                                          refine k_iinc F (pc := 168) 4 ((nI (i + 1))) [(3, .int (nI (i + 1))), (4, .int (nI 2)), (0, .ref (h 0)), (1, .int (bI ch3)), (2, .int (nI k))] dX4_scan_168 rfl (nI_1 i) (by decide) rfl ?_
                                          refine k_goto F (pc := 171) 102 dX4_scan_171 (by decide) ?_
                                          refine k_lv [(0, .ref (h 0)), (1, .int (bI ch3)), (2, .int (nI k)), (3, .int (nI (i + 1)))] [2, 3, 4, 0] rfl ?_
                                          exact ih102 (i + 1) ch3 on3 lo3 hi3 fl1_32 tlo1_33 thi1_34 le1_35 gr1_36 (by omega) (by omega) (by rw [rnd_some hsome]; simp only [snd2, hF0, hF1, arr_none, Bool.true_and]; exact hrp) (by rw [rnd_some hsome]; simp only [snd2, hF0, hF1, arr_none, Bool.true_and]; rw [← hch]; clear hch; simp [*])
                                        · skip
                                          exact absurd c_43 (by decide)
                                      · skip
                                        obtain ⟨T1, hF1, hTv1⟩ := FRep.some_of2 c_42 hfw.2
                                        obtain ⟨eq1, hq1, hq2⟩ := okP_q (hok i (by omega)) (fP_op (by rw [hF1]; simp : fP cd i X ≠ none))
                                        have hdec : decide ((cd (4 * i + 3)).toInt ≤ (i : Int)) = decide ((cd (4 * i + 3)).toNatClampNeg ≤ i) := by rw [hq2]; exact decide_eq_decide.mpr (by omega)
                                        refine k_aload_n F (pc := 143) 1 rfl dX4_scan_143 rfl ?_
                                        refine k_iload_n F (pc := 144) 4 rfl dX4_scan_144 rfl ?_
                                        refine k_aload_n F (pc := 145) 1 rfl dX4_scan_145 rfl ?_
                                        refine k_iload_n F (pc := 146) 4 rfl dX4_scan_146 rfl ?_
                                        refine k_iload F (pc := 147) 0 rfl dX4_scan_147 ?_
                                        refine k_callV F (pc := 149) (C := RX4) (T := TX4) (N := 15) (ci := 4) [.int (nI i), .int (nI 1)] [.int (nI i), .ref (h 0)] 2 (wX4 E h cd n (rt2 + 1) true on3 lo3 hi3 non nlo nhi fl1_32 tlo1_33 thi1_34 le1_35 gr1_36) [] [0, 1, 2, 3, 4, 5, 6, 7, 8, 9, 10] [] (m_X4_target__1 l E h cd n (rt2 + 1) true on3 lo3 hi3 non nlo nhi fl1_32 tlo1_33 thi1_34 le1_35 gr1_36 i (by omega)) dX4_scan_149 gX4_scan_X4_target rfl (by decide +kernel) rfl ⟨rfl, rfl⟩ (by decide) rfl (Nat.le_of_ble_eq_true rfl) (by decide) rfl rfl rfl rfl (by decide) (by decide) (by decide) ?_
                                        rintro v_44 w_45 ⟨rfl, rfl⟩
                                        refine k_perm (wX4 E h cd n (rt2 + 1) true on3 lo3 hi3 non nlo nhi fl1_32 tlo1_33 thi1_34 le1_35 gr1_36) [0, 1, 2, 3, 4, 5, 6, 7, 8, 9, 10] (by decide) rfl ?_
                                        show kK g (wX4 E h cd n (rt2 + 1) true on3 lo3 hi3 non nlo nhi fl1_32 tlo1_33 thi1_34 le1_35 gr1_36) [(4, .int (nI 1)), (0, .ref (h 0)), (1, .int (bI ch3)), (2, .int (nI k)), (3, .int (nI i))] 0 0 152 [.int (cd (4 * i + 3)), .int (nI i), .ref (h 0)]
                                        refine k_topi (nI ((cd (4 * i + 3)).toNatClampNeg)) eq1 ?_
                                        refine k_iload F (pc := 152) 0 rfl dX4_scan_152 ?_
                                        refine k_callV F (pc := 154) (C := RX4) (T := TX4) (N := 15) (ci := 4) [.int (nI i), .int (nI ((cd (4 * i + 3)).toNatClampNeg)), .int (nI 1)] [] 3 (wX4 E h cd n (rt2 + 1) true on3 lo3 hi3 non nlo nhi fl1_32 tlo1_33 thi1_34 le1_35 gr1_36) [] [0, 1, 2, 3, 4, 5, 6, 7, 8, 9, 10] [] (m_X4_arrive l E h cd n (rt2 + 1) true on3 lo3 hi3 non nlo nhi fl1_32 tlo1_33 thi1_34 le1_35 gr1_36 i ((cd (4 * i + 3)).toNatClampNeg) 1 ((rndTo cd (rndK cd n k) i).2) T1 (by omega) (by omega) (by omega) hrp (fun v hv => hTv1 v hv)) dX4_scan_154 gX4_scan_X4_arrive rfl (by decide +kernel) rfl ⟨rfl, rfl⟩ (by decide) rfl (Nat.le_of_ble_eq_true rfl) (by decide) rfl rfl rfl rfl (by decide) (by decide) (by decide) ?_
                                        rintro v_50 w_51 ⟨on1_46, lo1_47, hi1_48, r_49, rfl, rfl, har1⟩
                                        refine k_perm (wX4 E h cd n (rt2 + 1) true on1_46 lo1_47 hi1_48 non nlo nhi fl1_32 tlo1_33 thi1_34 le1_35 gr1_36) [0, 1, 2, 3, 4, 5, 6, 7, 8, 9, 10] (by decide) rfl ?_
                                        show kK g (wX4 E h cd n (rt2 + 1) true on1_46 lo1_47 hi1_48 non nlo nhi fl1_32 tlo1_33 thi1_34 le1_35 gr1_36) [(4, .int (nI 1)), (0, .ref (h 0)), (1, .int (bI ch3)), (2, .int (nI k)), (3, .int (nI i))] 0 0 157 [.int (bI r_49)]
                                        refine k_if_eqB F (pc := 157) 162 dX4_scan_157 (by decide) (fun c_52 => ?_) (fun c_52 => ?_)
                                        · skip
                                          refine k_iinc F (pc := 162) 0 ((nI 2)) [(4, .int (nI 2)), (0, .ref (h 0)), (1, .int (bI ch3)), (2, .int (nI k)), (3, .int (nI i))] dX4_scan_162 rfl (nI_1 1) (by decide) rfl ?_
                                          refine k_goto F (pc := 165) 127 dX4_scan_165 (by decide) ?_
                                          refine k_iload F (pc := 127) 0 rfl dX4_scan_127 ?_
                                          refine k_iconst F (pc := 129) ((nI 2)) dX4_scan_129 (by decide) ?_
                                          refine k_icmp_ge F (pc := 130) 168 dX4_scan_130 (by decide) (show (nI 2 : Int32).toInt = 2 by decide) (show (nI 2 : Int32).toInt = 2 by decide) (fun c_53 => ?_) (fun c_53 => ?_)
                                          · skip
                                            refine k_iinc F (pc := 168) 4 ((nI (i + 1))) [(3, .int (nI (i + 1))), (4, .int (nI 2)), (0, .ref (h 0)), (1, .int (bI ch3)), (2, .int (nI k))] dX4_scan_168 rfl (nI_1 i) (by decide) rfl ?_
                                            refine k_goto F (pc := 171) 102 dX4_scan_171 (by decide) ?_
                                            refine k_lv [(0, .ref (h 0)), (1, .int (bI ch3)), (2, .int (nI k)), (3, .int (nI (i + 1)))] [2, 3, 4, 0] rfl ?_
                                            exact ih102 (i + 1) ch3 on1_46 lo1_47 hi1_48 fl1_32 tlo1_33 thi1_34 le1_35 gr1_36 (by omega) (by omega) (by rw [rnd_some hsome]; simp only [snd2, hF0, hF1, arr_none, Bool.true_and, hdec]; exact har1.1) (by rw [rnd_some hsome]; simp only [snd2, hF0, hF1, arr_none, Bool.true_and, hdec]; rw [← hch]; rw [← har1.2]; clear har1 hch; simp [*])
                                          · skip
                                            exact absurd c_53 (by decide)
                                        · skip
                                          refine k_iconst F (pc := 160) ((nI 1)) dX4_scan_160 (by decide) ?_
                                          refine k_istore_n F (pc := 161) [(1, .int (nI 1)), (4, .int (nI 1)), (0, .ref (h 0)), (2, .int (nI k)), (3, .int (nI i))] dX4_scan_161 rfl (by decide) rfl ?_
                                          refine k_iinc F (pc := 162) 1 ((nI 2)) [(4, .int (nI 2)), (1, .int (nI 1)), (0, .ref (h 0)), (2, .int (nI k)), (3, .int (nI i))] dX4_scan_162 rfl (nI_1 1) (by decide) rfl ?_
                                          refine k_goto F (pc := 165) 127 dX4_scan_165 (by decide) ?_
                                          refine k_iload F (pc := 127) 0 rfl dX4_scan_127 ?_
                                          refine k_iconst F (pc := 129) ((nI 2)) dX4_scan_129 (by decide) ?_
                                          refine k_icmp_ge F (pc := 130) 168 dX4_scan_130 (by decide) (show (nI 2 : Int32).toInt = 2 by decide) (show (nI 2 : Int32).toInt = 2 by decide) (fun c_54 => ?_) (fun c_54 => ?_)
                                          · skip
                                            refine k_iinc F (pc := 168) 4 ((nI (i + 1))) [(3, .int (nI (i + 1))), (4, .int (nI 2)), (1, .int (nI 1)), (0, .ref (h 0)), (2, .int (nI k))] dX4_scan_168 rfl (nI_1 i) (by decide) rfl ?_
                                            refine k_goto F (pc := 171) 102 dX4_scan_171 (by decide) ?_
                                            refine k_lv [(0, .ref (h 0)), (1, .int (nI 1)), (2, .int (nI k)), (3, .int (nI (i + 1)))] [3, 2, 4, 0] rfl ?_
                                            exact ih102 (i + 1) true on1_46 lo1_47 hi1_48 fl1_32 tlo1_33 thi1_34 le1_35 gr1_36 (by omega) (by omega) (by rw [rnd_some hsome]; simp only [snd2, hF0, hF1, arr_none, Bool.true_and, hdec]; exact har1.1) (by rw [rnd_some hsome]; simp only [snd2, hF0, hF1, arr_none, Bool.true_and, hdec]; rw [← hch]; rw [← har1.2]; clear har1 hch; simp [*])
                                          · skip
                                            exact absurd c_54 (by decide)
                                  · skip
                                    obtain ⟨T0, hF0, hTv0⟩ := FRep.some_of2 c_40 hfw.1
                                    have hq0 : i + 1 < 24 := by have := fN_in hn hwh (show i < n by omega) (by rw [hF0]; simp : fN cd i X ≠ none); omega
                                    refine k_aload_n F (pc := 143) 1 rfl dX4_scan_143 rfl ?_
                                    refine k_iload_n F (pc := 144) 4 rfl dX4_scan_144 rfl ?_
                                    refine k_aload_n F (pc := 145) 1 rfl dX4_scan_145 rfl ?_
                                    refine k_iload_n F (pc := 146) 4 rfl dX4_scan_146 rfl ?_
                                    refine k_iload F (pc := 147) 0 rfl dX4_scan_147 ?_
                                    refine k_callV F (pc := 149) (C := RX4) (T := TX4) (N := 15) (ci := 4) [.int (nI i), .int (nI 0)] [.int (nI i), .ref (h 0)] 2 (wX4 E h cd n (rt2 + 1) true on3 lo3 hi3 non nlo nhi fl1_32 tlo1_33 thi1_34 le1_35 gr1_36) [] [0, 1, 2, 3, 4, 5, 6, 7, 8, 9, 10] [] (m_X4_target__0 l E h cd n (rt2 + 1) true on3 lo3 hi3 non nlo nhi fl1_32 tlo1_33 thi1_34 le1_35 gr1_36 i (by omega)) dX4_scan_149 gX4_scan_X4_target rfl (by decide +kernel) rfl ⟨rfl, rfl⟩ (by decide) rfl (Nat.le_of_ble_eq_true rfl) (by decide) rfl rfl rfl rfl (by decide) (by decide) (by decide) ?_
                                    rintro v_55 w_56 ⟨rfl, rfl⟩
                                    refine k_perm (wX4 E h cd n (rt2 + 1) true on3 lo3 hi3 non nlo nhi fl1_32 tlo1_33 thi1_34 le1_35 gr1_36) [0, 1, 2, 3, 4, 5, 6, 7, 8, 9, 10] (by decide) rfl ?_
                                    show kK g (wX4 E h cd n (rt2 + 1) true on3 lo3 hi3 non nlo nhi fl1_32 tlo1_33 thi1_34 le1_35 gr1_36) [(4, .int (nI 0)), (0, .ref (h 0)), (1, .int (bI ch3)), (2, .int (nI k)), (3, .int (nI i))] 0 0 152 [.int (nI (i + 1)), .int (nI i), .ref (h 0)]
                                    refine k_iload F (pc := 152) 0 rfl dX4_scan_152 ?_
                                    refine k_callV F (pc := 154) (C := RX4) (T := TX4) (N := 15) (ci := 4) [.int (nI i), .int (nI (i + 1)), .int (nI 0)] [] 3 (wX4 E h cd n (rt2 + 1) true on3 lo3 hi3 non nlo nhi fl1_32 tlo1_33 thi1_34 le1_35 gr1_36) [] [0, 1, 2, 3, 4, 5, 6, 7, 8, 9, 10] [] (m_X4_arrive l E h cd n (rt2 + 1) true on3 lo3 hi3 non nlo nhi fl1_32 tlo1_33 thi1_34 le1_35 gr1_36 i (i + 1) 0 ((rndTo cd (rndK cd n k) i).2) T0 (by omega) (by omega) (by omega) hrp (fun v hv => by simpa using hTv0 v hv)) dX4_scan_154 gX4_scan_X4_arrive rfl (by decide +kernel) rfl ⟨rfl, rfl⟩ (by decide) rfl (Nat.le_of_ble_eq_true rfl) (by decide) rfl rfl rfl rfl (by decide) (by decide) (by decide) ?_
                                    rintro v_61 w_62 ⟨on1_57, lo1_58, hi1_59, r_60, rfl, rfl, har0⟩
                                    refine k_perm (wX4 E h cd n (rt2 + 1) true on1_57 lo1_58 hi1_59 non nlo nhi fl1_32 tlo1_33 thi1_34 le1_35 gr1_36) [0, 1, 2, 3, 4, 5, 6, 7, 8, 9, 10] (by decide) rfl ?_
                                    show kK g (wX4 E h cd n (rt2 + 1) true on1_57 lo1_58 hi1_59 non nlo nhi fl1_32 tlo1_33 thi1_34 le1_35 gr1_36) [(4, .int (nI 0)), (0, .ref (h 0)), (1, .int (bI ch3)), (2, .int (nI k)), (3, .int (nI i))] 0 0 157 [.int (bI r_60)]
                                    rw [show decide (i + 1 ≤ i) = false from decide_eq_false (by omega)] at har0
                                    refine k_if_eqB F (pc := 157) 162 dX4_scan_157 (by decide) (fun c_63 => ?_) (fun c_63 => ?_)
                                    · skip
                                      refine k_iinc F (pc := 162) 0 ((nI 1)) [(4, .int (nI 1)), (0, .ref (h 0)), (1, .int (bI ch3)), (2, .int (nI k)), (3, .int (nI i))] dX4_scan_162 rfl (nI_1 0) (by decide) rfl ?_
                                      refine k_goto F (pc := 165) 127 dX4_scan_165 (by decide) ?_
                                      refine k_iload F (pc := 127) 0 rfl dX4_scan_127 ?_
                                      refine k_iconst F (pc := 129) ((nI 2)) dX4_scan_129 (by decide) ?_
                                      refine k_icmp_ge F (pc := 130) 168 dX4_scan_130 (by decide) (show (nI 1 : Int32).toInt = 1 by decide) (show (nI 2 : Int32).toInt = 2 by decide) (fun c_64 => ?_) (fun c_64 => ?_)
                                      · skip
                                        exact absurd c_64 (by decide)
                                      · skip
                                        refine k_aload_n F (pc := 133) 1 rfl dX4_scan_133 rfl ?_
                                        refine k_get F (pc := 134) (ref := RX4) (C := RX4) (T := TX4) (N := 15) (ci := 4) 0 10 dX4_scan_134 zin_X4_scan_X4 rfl rfl (by decide) zm_X4_scan_f33 rfl rfl ?_
                                        refine k_iload F (pc := 137) 0 rfl dX4_scan_137 ?_
                                        refine k_zald F (pc := 139) 8 dX4_scan_139 rfl (by omega) (by decide) ?_
                                        refine k_if_eqB F (pc := 140) 162 dX4_scan_140 (by decide) (fun c_65 => ?_) (fun c_65 => ?_)
                                        · skip
                                          have hF1 : fP cd i X = none := FRep.none_of2 c_65 hfw.2
                                          refine k_iinc F (pc := 162) 0 ((nI 2)) [(4, .int (nI 2)), (0, .ref (h 0)), (1, .int (bI ch3)), (2, .int (nI k)), (3, .int (nI i))] dX4_scan_162 rfl (nI_1 1) (by decide) rfl ?_
                                          refine k_goto F (pc := 165) 127 dX4_scan_165 (by decide) ?_
                                          refine k_iload F (pc := 127) 0 rfl dX4_scan_127 ?_
                                          refine k_iconst F (pc := 129) ((nI 2)) dX4_scan_129 (by decide) ?_
                                          refine k_icmp_ge F (pc := 130) 168 dX4_scan_130 (by decide) (show (nI 2 : Int32).toInt = 2 by decide) (show (nI 2 : Int32).toInt = 2 by decide) (fun c_66 => ?_) (fun c_66 => ?_)
                                          · skip
                                            refine k_iinc F (pc := 168) 4 ((nI (i + 1))) [(3, .int (nI (i + 1))), (4, .int (nI 2)), (0, .ref (h 0)), (1, .int (bI ch3)), (2, .int (nI k))] dX4_scan_168 rfl (nI_1 i) (by decide) rfl ?_
                                            refine k_goto F (pc := 171) 102 dX4_scan_171 (by decide) ?_
                                            refine k_lv [(0, .ref (h 0)), (1, .int (bI ch3)), (2, .int (nI k)), (3, .int (nI (i + 1)))] [2, 3, 4, 0] rfl ?_
                                            exact ih102 (i + 1) ch3 on1_57 lo1_58 hi1_59 fl1_32 tlo1_33 thi1_34 le1_35 gr1_36 (by omega) (by omega) (by rw [rnd_some hsome]; simp only [snd2, hF0, hF1, arr_none, Bool.true_and]; exact har0.1) (by rw [rnd_some hsome]; simp only [snd2, hF0, hF1, arr_none, Bool.true_and]; rw [← hch]; rw [← har0.2]; clear har0 hch; simp [*])
                                          · skip
                                            exact absurd c_66 (by decide)
                                        · skip
                                          obtain ⟨T1, hF1, hTv1⟩ := FRep.some_of2 c_65 hfw.2
                                          obtain ⟨eq1, hq1, hq2⟩ := okP_q (hok i (by omega)) (fP_op (by rw [hF1]; simp : fP cd i X ≠ none))
                                          have hdec : decide ((cd (4 * i + 3)).toInt ≤ (i : Int)) = decide ((cd (4 * i + 3)).toNatClampNeg ≤ i) := by rw [hq2]; exact decide_eq_decide.mpr (by omega)
                                          refine k_aload_n F (pc := 143) 1 rfl dX4_scan_143 rfl ?_
                                          refine k_iload_n F (pc := 144) 4 rfl dX4_scan_144 rfl ?_
                                          refine k_aload_n F (pc := 145) 1 rfl dX4_scan_145 rfl ?_
                                          refine k_iload_n F (pc := 146) 4 rfl dX4_scan_146 rfl ?_
                                          refine k_iload F (pc := 147) 0 rfl dX4_scan_147 ?_
                                          refine k_callV F (pc := 149) (C := RX4) (T := TX4) (N := 15) (ci := 4) [.int (nI i), .int (nI 1)] [.int (nI i), .ref (h 0)] 2 (wX4 E h cd n (rt2 + 1) true on1_57 lo1_58 hi1_59 non nlo nhi fl1_32 tlo1_33 thi1_34 le1_35 gr1_36) [] [0, 1, 2, 3, 4, 5, 6, 7, 8, 9, 10] [] (m_X4_target__1 l E h cd n (rt2 + 1) true on1_57 lo1_58 hi1_59 non nlo nhi fl1_32 tlo1_33 thi1_34 le1_35 gr1_36 i (by omega)) dX4_scan_149 gX4_scan_X4_target rfl (by decide +kernel) rfl ⟨rfl, rfl⟩ (by decide) rfl (Nat.le_of_ble_eq_true rfl) (by decide) rfl rfl rfl rfl (by decide) (by decide) (by decide) ?_
                                          rintro v_67 w_68 ⟨rfl, rfl⟩
                                          refine k_perm (wX4 E h cd n (rt2 + 1) true on1_57 lo1_58 hi1_59 non nlo nhi fl1_32 tlo1_33 thi1_34 le1_35 gr1_36) [0, 1, 2, 3, 4, 5, 6, 7, 8, 9, 10] (by decide) rfl ?_
                                          show kK g (wX4 E h cd n (rt2 + 1) true on1_57 lo1_58 hi1_59 non nlo nhi fl1_32 tlo1_33 thi1_34 le1_35 gr1_36) [(4, .int (nI 1)), (0, .ref (h 0)), (1, .int (bI ch3)), (2, .int (nI k)), (3, .int (nI i))] 0 0 152 [.int (cd (4 * i + 3)), .int (nI i), .ref (h 0)]
                                          refine k_topi (nI ((cd (4 * i + 3)).toNatClampNeg)) eq1 ?_
                                          refine k_iload F (pc := 152) 0 rfl dX4_scan_152 ?_
                                          refine k_callV F (pc := 154) (C := RX4) (T := TX4) (N := 15) (ci := 4) [.int (nI i), .int (nI ((cd (4 * i + 3)).toNatClampNeg)), .int (nI 1)] [] 3 (wX4 E h cd n (rt2 + 1) true on1_57 lo1_58 hi1_59 non nlo nhi fl1_32 tlo1_33 thi1_34 le1_35 gr1_36) [] [0, 1, 2, 3, 4, 5, 6, 7, 8, 9, 10] [] (m_X4_arrive l E h cd n (rt2 + 1) true on1_57 lo1_58 hi1_59 non nlo nhi fl1_32 tlo1_33 thi1_34 le1_35 gr1_36 i ((cd (4 * i + 3)).toNatClampNeg) 1 ((arr (rndTo cd (rndK cd n k) i).2 (i + 1) (some T0) false).2) T1 (by omega) (by omega) (by omega) har0.1 (fun v hv => hTv1 v hv)) dX4_scan_154 gX4_scan_X4_arrive rfl (by decide +kernel) rfl ⟨rfl, rfl⟩ (by decide) rfl (Nat.le_of_ble_eq_true rfl) (by decide) rfl rfl rfl rfl (by decide) (by decide) (by decide) ?_
                                          rintro v_73 w_74 ⟨on1_69, lo1_70, hi1_71, r_72, rfl, rfl, har1⟩
                                          refine k_perm (wX4 E h cd n (rt2 + 1) true on1_69 lo1_70 hi1_71 non nlo nhi fl1_32 tlo1_33 thi1_34 le1_35 gr1_36) [0, 1, 2, 3, 4, 5, 6, 7, 8, 9, 10] (by decide) rfl ?_
                                          show kK g (wX4 E h cd n (rt2 + 1) true on1_69 lo1_70 hi1_71 non nlo nhi fl1_32 tlo1_33 thi1_34 le1_35 gr1_36) [(4, .int (nI 1)), (0, .ref (h 0)), (1, .int (bI ch3)), (2, .int (nI k)), (3, .int (nI i))] 0 0 157 [.int (bI r_72)]
                                          refine k_if_eqB F (pc := 157) 162 dX4_scan_157 (by decide) (fun c_75 => ?_) (fun c_75 => ?_)
                                          · skip
                                            refine k_iinc F (pc := 162) 0 ((nI 2)) [(4, .int (nI 2)), (0, .ref (h 0)), (1, .int (bI ch3)), (2, .int (nI k)), (3, .int (nI i))] dX4_scan_162 rfl (nI_1 1) (by decide) rfl ?_
                                            refine k_goto F (pc := 165) 127 dX4_scan_165 (by decide) ?_
                                            refine k_iload F (pc := 127) 0 rfl dX4_scan_127 ?_
                                            refine k_iconst F (pc := 129) ((nI 2)) dX4_scan_129 (by decide) ?_
                                            refine k_icmp_ge F (pc := 130) 168 dX4_scan_130 (by decide) (show (nI 2 : Int32).toInt = 2 by decide) (show (nI 2 : Int32).toInt = 2 by decide) (fun c_76 => ?_) (fun c_76 => ?_)
                                            · skip
                                              refine k_iinc F (pc := 168) 4 ((nI (i + 1))) [(3, .int (nI (i + 1))), (4, .int (nI 2)), (0, .ref (h 0)), (1, .int (bI ch3)), (2, .int (nI k))] dX4_scan_168 rfl (nI_1 i) (by decide) rfl ?_
                                              refine k_goto F (pc := 171) 102 dX4_scan_171 (by decide) ?_
                                              refine k_lv [(0, .ref (h 0)), (1, .int (bI ch3)), (2, .int (nI k)), (3, .int (nI (i + 1)))] [2, 3, 4, 0] rfl ?_
                                              exact ih102 (i + 1) ch3 on1_69 lo1_70 hi1_71 fl1_32 tlo1_33 thi1_34 le1_35 gr1_36 (by omega) (by omega) (by rw [rnd_some hsome]; simp only [snd2, hF0, hF1, arr_none, Bool.true_and, hdec]; exact har1.1) (by rw [rnd_some hsome]; simp only [snd2, hF0, hF1, arr_none, Bool.true_and, hdec]; rw [← hch]; rw [← har0.2]; rw [← har1.2]; clear har1 har0 hch; simp [*])
                                            · skip
                                              exact absurd c_76 (by decide)
                                          · skip
                                            refine k_iconst F (pc := 160) ((nI 1)) dX4_scan_160 (by decide) ?_
                                            refine k_istore_n F (pc := 161) [(1, .int (nI 1)), (4, .int (nI 1)), (0, .ref (h 0)), (2, .int (nI k)), (3, .int (nI i))] dX4_scan_161 rfl (by decide) rfl ?_
                                            refine k_iinc F (pc := 162) 1 ((nI 2)) [(4, .int (nI 2)), (1, .int (nI 1)), (0, .ref (h 0)), (2, .int (nI k)), (3, .int (nI i))] dX4_scan_162 rfl (nI_1 1) (by decide) rfl ?_
                                            refine k_goto F (pc := 165) 127 dX4_scan_165 (by decide) ?_
                                            refine k_iload F (pc := 127) 0 rfl dX4_scan_127 ?_
                                            refine k_iconst F (pc := 129) ((nI 2)) dX4_scan_129 (by decide) ?_
                                            refine k_icmp_ge F (pc := 130) 168 dX4_scan_130 (by decide) (show (nI 2 : Int32).toInt = 2 by decide) (show (nI 2 : Int32).toInt = 2 by decide) (fun c_77 => ?_) (fun c_77 => ?_)
                                            · skip
                                              refine k_iinc F (pc := 168) 4 ((nI (i + 1))) [(3, .int (nI (i + 1))), (4, .int (nI 2)), (1, .int (nI 1)), (0, .ref (h 0)), (2, .int (nI k))] dX4_scan_168 rfl (nI_1 i) (by decide) rfl ?_
                                              refine k_goto F (pc := 171) 102 dX4_scan_171 (by decide) ?_
                                              refine k_lv [(0, .ref (h 0)), (1, .int (nI 1)), (2, .int (nI k)), (3, .int (nI (i + 1)))] [3, 2, 4, 0] rfl ?_
                                              exact ih102 (i + 1) true on1_69 lo1_70 hi1_71 fl1_32 tlo1_33 thi1_34 le1_35 gr1_36 (by omega) (by omega) (by rw [rnd_some hsome]; simp only [snd2, hF0, hF1, arr_none, Bool.true_and, hdec]; exact har1.1) (by rw [rnd_some hsome]; simp only [snd2, hF0, hF1, arr_none, Bool.true_and, hdec]; rw [← hch]; rw [← har0.2]; rw [← har1.2]; clear har1 har0 hch; simp [*])
                                            · skip
                                              exact absurd c_77 (by decide)
                                    · skip
                                      refine k_iconst F (pc := 160) ((nI 1)) dX4_scan_160 (by decide) ?_
                                      refine k_istore_n F (pc := 161) [(1, .int (nI 1)), (4, .int (nI 0)), (0, .ref (h 0)), (2, .int (nI k)), (3, .int (nI i))] dX4_scan_161 rfl (by decide) rfl ?_
                                      refine k_iinc F (pc := 162) 1 ((nI 1)) [(4, .int (nI 1)), (1, .int (nI 1)), (0, .ref (h 0)), (2, .int (nI k)), (3, .int (nI i))] dX4_scan_162 rfl (nI_1 0) (by decide) rfl ?_
                                      refine k_goto F (pc := 165) 127 dX4_scan_165 (by decide) ?_
                                      refine k_iload F (pc := 127) 0 rfl dX4_scan_127 ?_
                                      refine k_iconst F (pc := 129) ((nI 2)) dX4_scan_129 (by decide) ?_
                                      refine k_icmp_ge F (pc := 130) 168 dX4_scan_130 (by decide) (show (nI 1 : Int32).toInt = 1 by decide) (show (nI 2 : Int32).toInt = 2 by decide) (fun c_78 => ?_) (fun c_78 => ?_)
                                      · skip
                                        exact absurd c_78 (by decide)
                                      · skip
                                        refine k_aload_n F (pc := 133) 2 rfl dX4_scan_133 rfl ?_
                                        refine k_get F (pc := 134) (ref := RX4) (C := RX4) (T := TX4) (N := 15) (ci := 4) 0 10 dX4_scan_134 zin_X4_scan_X4 rfl rfl (by decide) zm_X4_scan_f33 rfl rfl ?_
                                        refine k_iload F (pc := 137) 0 rfl dX4_scan_137 ?_
                                        refine k_zald F (pc := 139) 8 dX4_scan_139 rfl (by omega) (by decide) ?_
                                        refine k_if_eqB F (pc := 140) 162 dX4_scan_140 (by decide) (fun c_79 => ?_) (fun c_79 => ?_)
                                        · skip
                                          have hF1 : fP cd i X = none := FRep.none_of2 c_79 hfw.2
                                          refine k_iinc F (pc := 162) 0 ((nI 2)) [(4, .int (nI 2)), (1, .int (nI 1)), (0, .ref (h 0)), (2, .int (nI k)), (3, .int (nI i))] dX4_scan_162 rfl (nI_1 1) (by decide) rfl ?_
                                          refine k_goto F (pc := 165) 127 dX4_scan_165 (by decide) ?_
                                          refine k_iload F (pc := 127) 0 rfl dX4_scan_127 ?_
                                          refine k_iconst F (pc := 129) ((nI 2)) dX4_scan_129 (by decide) ?_
                                          refine k_icmp_ge F (pc := 130) 168 dX4_scan_130 (by decide) (show (nI 2 : Int32).toInt = 2 by decide) (show (nI 2 : Int32).toInt = 2 by decide) (fun c_80 => ?_) (fun c_80 => ?_)
                                          · skip
                                            refine k_iinc F (pc := 168) 4 ((nI (i + 1))) [(3, .int (nI (i + 1))), (4, .int (nI 2)), (1, .int (nI 1)), (0, .ref (h 0)), (2, .int (nI k))] dX4_scan_168 rfl (nI_1 i) (by decide) rfl ?_
                                            refine k_goto F (pc := 171) 102 dX4_scan_171 (by decide) ?_
                                            refine k_lv [(0, .ref (h 0)), (1, .int (nI 1)), (2, .int (nI k)), (3, .int (nI (i + 1)))] [3, 2, 4, 0] rfl ?_
                                            exact ih102 (i + 1) true on1_57 lo1_58 hi1_59 fl1_32 tlo1_33 thi1_34 le1_35 gr1_36 (by omega) (by omega) (by rw [rnd_some hsome]; simp only [snd2, hF0, hF1, arr_none, Bool.true_and]; exact har0.1) (by rw [rnd_some hsome]; simp only [snd2, hF0, hF1, arr_none, Bool.true_and]; rw [← hch]; rw [← har0.2]; clear har0 hch; simp [*])
                                          · skip
                                            exact absurd c_80 (by decide)
                                        · skip
                                          obtain ⟨T1, hF1, hTv1⟩ := FRep.some_of2 c_79 hfw.2
                                          obtain ⟨eq1, hq1, hq2⟩ := okP_q (hok i (by omega)) (fP_op (by rw [hF1]; simp : fP cd i X ≠ none))
                                          have hdec : decide ((cd (4 * i + 3)).toInt ≤ (i : Int)) = decide ((cd (4 * i + 3)).toNatClampNeg ≤ i) := by rw [hq2]; exact decide_eq_decide.mpr (by omega)
                                          refine k_aload_n F (pc := 143) 2 rfl dX4_scan_143 rfl ?_
                                          refine k_iload_n F (pc := 144) 4 rfl dX4_scan_144 rfl ?_
                                          refine k_aload_n F (pc := 145) 2 rfl dX4_scan_145 rfl ?_
                                          refine k_iload_n F (pc := 146) 4 rfl dX4_scan_146 rfl ?_
                                          refine k_iload F (pc := 147) 0 rfl dX4_scan_147 ?_
                                          refine k_callV F (pc := 149) (C := RX4) (T := TX4) (N := 15) (ci := 4) [.int (nI i), .int (nI 1)] [.int (nI i), .ref (h 0)] 2 (wX4 E h cd n (rt2 + 1) true on1_57 lo1_58 hi1_59 non nlo nhi fl1_32 tlo1_33 thi1_34 le1_35 gr1_36) [] [0, 1, 2, 3, 4, 5, 6, 7, 8, 9, 10] [] (m_X4_target__1 l E h cd n (rt2 + 1) true on1_57 lo1_58 hi1_59 non nlo nhi fl1_32 tlo1_33 thi1_34 le1_35 gr1_36 i (by omega)) dX4_scan_149 gX4_scan_X4_target rfl (by decide +kernel) rfl ⟨rfl, rfl⟩ (by decide) rfl (Nat.le_of_ble_eq_true rfl) (by decide) rfl rfl rfl rfl (by decide) (by decide) (by decide) ?_
                                          rintro v_81 w_82 ⟨rfl, rfl⟩
                                          refine k_perm (wX4 E h cd n (rt2 + 1) true on1_57 lo1_58 hi1_59 non nlo nhi fl1_32 tlo1_33 thi1_34 le1_35 gr1_36) [0, 1, 2, 3, 4, 5, 6, 7, 8, 9, 10] (by decide) rfl ?_
                                          show kK g (wX4 E h cd n (rt2 + 1) true on1_57 lo1_58 hi1_59 non nlo nhi fl1_32 tlo1_33 thi1_34 le1_35 gr1_36) [(4, .int (nI 1)), (1, .int (nI 1)), (0, .ref (h 0)), (2, .int (nI k)), (3, .int (nI i))] 0 0 152 [.int (cd (4 * i + 3)), .int (nI i), .ref (h 0)]
                                          refine k_topi (nI ((cd (4 * i + 3)).toNatClampNeg)) eq1 ?_
                                          refine k_iload F (pc := 152) 0 rfl dX4_scan_152 ?_
                                          refine k_callV F (pc := 154) (C := RX4) (T := TX4) (N := 15) (ci := 4) [.int (nI i), .int (nI ((cd (4 * i + 3)).toNatClampNeg)), .int (nI 1)] [] 3 (wX4 E h cd n (rt2 + 1) true on1_57 lo1_58 hi1_59 non nlo nhi fl1_32 tlo1_33 thi1_34 le1_35 gr1_36) [] [0, 1, 2, 3, 4, 5, 6, 7, 8, 9, 10] [] (m_X4_arrive l E h cd n (rt2 + 1) true on1_57 lo1_58 hi1_59 non nlo nhi fl1_32 tlo1_33 thi1_34 le1_35 gr1_36 i ((cd (4 * i + 3)).toNatClampNeg) 1 ((arr (rndTo cd (rndK cd n k) i).2 (i + 1) (some T0) false).2) T1 (by omega) (by omega) (by omega) har0.1 (fun v hv => hTv1 v hv)) dX4_scan_154 gX4_scan_X4_arrive rfl (by decide +kernel) rfl ⟨rfl, rfl⟩ (by decide) rfl (Nat.le_of_ble_eq_true rfl) (by decide) rfl rfl rfl rfl (by decide) (by decide) (by decide) ?_
                                          rintro v_87 w_88 ⟨on1_83, lo1_84, hi1_85, r_86, rfl, rfl, har1⟩
                                          refine k_perm (wX4 E h cd n (rt2 + 1) true on1_83 lo1_84 hi1_85 non nlo nhi fl1_32 tlo1_33 thi1_34 le1_35 gr1_36) [0, 1, 2, 3, 4, 5, 6, 7, 8, 9, 10] (by decide) rfl ?_
                                          show kK g (wX4 E h cd n (rt2 + 1) true on1_83 lo1_84 hi1_85 non nlo nhi fl1_32 tlo1_33 thi1_34 le1_35 gr1_36) [(4, .int (nI 1)), (1, .int (nI 1)), (0, .ref (h 0)), (2, .int (nI k)), (3, .int (nI i))] 0 0 157 [.int (bI r_86)]
                                          refine k_if_eqB F (pc := 157) 162 dX4_scan_157 (by decide) (fun c_89 => ?_) (fun c_89 => ?_)
                                          · skip
                                            refine k_iinc F (pc := 162) 0 ((nI 2)) [(4, .int (nI 2)), (1, .int (nI 1)), (0, .ref (h 0)), (2, .int (nI k)), (3, .int (nI i))] dX4_scan_162 rfl (nI_1 1) (by decide) rfl ?_
                                            refine k_goto F (pc := 165) 127 dX4_scan_165 (by decide) ?_
                                            refine k_iload F (pc := 127) 0 rfl dX4_scan_127 ?_
                                            refine k_iconst F (pc := 129) ((nI 2)) dX4_scan_129 (by decide) ?_
                                            refine k_icmp_ge F (pc := 130) 168 dX4_scan_130 (by decide) (show (nI 2 : Int32).toInt = 2 by decide) (show (nI 2 : Int32).toInt = 2 by decide) (fun c_90 => ?_) (fun c_90 => ?_)
                                            · skip
                                              refine k_iinc F (pc := 168) 4 ((nI (i + 1))) [(3, .int (nI (i + 1))), (4, .int (nI 2)), (1, .int (nI 1)), (0, .ref (h 0)), (2, .int (nI k))] dX4_scan_168 rfl (nI_1 i) (by decide) rfl ?_
                                              refine k_goto F (pc := 171) 102 dX4_scan_171 (by decide) ?_
                                              refine k_lv [(0, .ref (h 0)), (1, .int (nI 1)), (2, .int (nI k)), (3, .int (nI (i + 1)))] [3, 2, 4, 0] rfl ?_
                                              exact ih102 (i + 1) true on1_83 lo1_84 hi1_85 fl1_32 tlo1_33 thi1_34 le1_35 gr1_36 (by omega) (by omega) (by rw [rnd_some hsome]; simp only [snd2, hF0, hF1, arr_none, Bool.true_and, hdec]; exact har1.1) (by rw [rnd_some hsome]; simp only [snd2, hF0, hF1, arr_none, Bool.true_and, hdec]; rw [← hch]; rw [← har0.2]; rw [← har1.2]; clear har1 har0 hch; simp [*])
                                            · skip
                                              exact absurd c_90 (by decide)
                                          · skip
                                            refine k_iconst F (pc := 160) ((nI 1)) dX4_scan_160 (by decide) ?_
                                            refine k_istore_n F (pc := 161) [(1, .int (nI 1)), (4, .int (nI 1)), (0, .ref (h 0)), (2, .int (nI k)), (3, .int (nI i))] dX4_scan_161 rfl (by decide) rfl ?_
                                            refine k_iinc F (pc := 162) 1 ((nI 2)) [(4, .int (nI 2)), (1, .int (nI 1)), (0, .ref (h 0)), (2, .int (nI k)), (3, .int (nI i))] dX4_scan_162 rfl (nI_1 1) (by decide) rfl ?_
                                            refine k_goto F (pc := 165) 127 dX4_scan_165 (by decide) ?_
                                            refine k_iload F (pc := 127) 0 rfl dX4_scan_127 ?_
                                            refine k_iconst F (pc := 129) ((nI 2)) dX4_scan_129 (by decide) ?_
                                            refine k_icmp_ge F (pc := 130) 168 dX4_scan_130 (by decide) (show (nI 2 : Int32).toInt = 2 by decide) (show (nI 2 : Int32).toInt = 2 by decide) (fun c_91 => ?_) (fun c_91 => ?_)
                                            · skip
                                              refine k_iinc F (pc := 168) 4 ((nI (i + 1))) [(3, .int (nI (i + 1))), (4, .int (nI 2)), (1, .int (nI 1)), (0, .ref (h 0)), (2, .int (nI k))] dX4_scan_168 rfl (nI_1 i) (by decide) rfl ?_
                                              refine k_goto F (pc := 171) 102 dX4_scan_171 (by decide) ?_
                                              refine k_lv [(0, .ref (h 0)), (1, .int (nI 1)), (2, .int (nI k)), (3, .int (nI (i + 1)))] [3, 2, 4, 0] rfl ?_
                                              exact ih102 (i + 1) true on1_83 lo1_84 hi1_85 fl1_32 tlo1_33 thi1_34 le1_35 gr1_36 (by omega) (by omega) (by rw [rnd_some hsome]; simp only [snd2, hF0, hF1, arr_none, Bool.true_and, hdec]; exact har1.1) (by rw [rnd_some hsome]; simp only [snd2, hF0, hF1, arr_none, Bool.true_and, hdec]; rw [← hch]; rw [← har0.2]; rw [← har1.2]; clear har1 har0 hch; simp [*])
                                            · skip
                                              exact absurd c_91 (by decide)
                        refine k_lv [(0, .ref (h 0)), (1, .int (nI 0)), (2, .int (nI k)), (3, .int (nI 0))] [2, 1, 3, 0] rfl ?_
                        exact L102 (n - 0 + 1) 0 false on2 lo2 hi2 fl2 tl2 th2 le2 gr2 (Nat.lt_succ_self _) (by omega) (by exact hrp) (by rfl)
                refine k_lv [(0, .ref (h 0)), (1, .int (nI 1)), (2, .int (nI 0))] [2, 1, 0] rfl ?_
                exact L78 (K - 0 + 1) 0 true 0 on4 lo4 hi4 fl tlo thi le gr (Nat.lt_succ_self _) (by omega) (by rfl) (by exact rep_S0 (fun j hj => hon j (by omega)) (fun j hj => hlz j (by omega))) (by exact ⟨fun _ => by have := hKK.1; omega, fun _ => rfl⟩)
              · skip
                refine k_aload_n F (pc := 54) 0 rfl dX4_scan_54 rfl ?_
                refine k_get F (pc := 55) (ref := RX4) (C := RX4) (T := TX4) (N := 15) (ci := 4) 0 5 dX4_scan_55 zin_X4_scan_X4 rfl rfl (by decide) zm_X4_scan_f17 rfl rfl ?_
                refine k_iload_n F (pc := 58) 1 rfl dX4_scan_58 rfl ?_
                refine k_lconst F (pc := 59) 0 dX4_scan_59 (by decide) ?_
                refine k_last F (pc := 60) 3 (fun lo_92 => (wX4 E h cd n 0 true on4 lo_92 hi4 non nlo nhi fl tlo thi le gr)) dX4_scan_60 rfl (by omega) (by decide) (fun _ => rfl) (fun lo_92 elo_92 => ?_)
                refine k_aload_n F (pc := 61) 0 rfl dX4_scan_61 rfl ?_
                refine k_get F (pc := 62) (ref := RX4) (C := RX4) (T := TX4) (N := 15) (ci := 4) 0 6 dX4_scan_62 zin_X4_scan_X4 rfl rfl (by decide) zm_X4_scan_f21 rfl rfl ?_
                refine k_iload_n F (pc := 65) 1 rfl dX4_scan_65 rfl ?_
                refine k_lconst F (pc := 66) 0 dX4_scan_66 (by decide) ?_
                refine k_last F (pc := 67) 4 (fun hi_93 => (wX4 E h cd n 0 true on4 lo_92 hi_93 non nlo nhi fl tlo thi le gr)) dX4_scan_67 rfl (by omega) (by decide) (fun _ => rfl) (fun hi_93 ehi_93 => ?_)
                refine k_iinc F (pc := 68) 1 ((nI (i + 1))) [(1, .int (nI (i + 1))), (0, .ref (h 0))] dX4_scan_68 rfl (nI_1 i) (by decide) rfl ?_
                refine k_goto F (pc := 71) 49 dX4_scan_71 (by decide) ?_
                refine k_lv [(0, .ref (h 0)), (1, .int (nI (i + 1)))] [1, 0] rfl ?_
                exact ih49 (i + 1) lo_92 hi_93 (by omega) (by omega) (by exact updL_zero hlz (by assumption) (by assumption))
          refine k_lv [(0, .ref (h 0)), (1, .int (nI 0))] [1, 0] rfl ?_
          exact L49 (4 - 0 + 1) 0 lo hi (Nat.lt_succ_self _) (by omega) (by intro j hj; omega)
        · skip
          refine k_aload_n F (pc := 26) 0 rfl dX4_scan_26 rfl ?_
          refine k_get F (pc := 27) (ref := RX4) (C := RX4) (T := TX4) (N := 15) (ci := 4) 0 4 dX4_scan_27 zin_X4_scan_X4 rfl rfl (by decide) zm_X4_scan_f13 rfl rfl ?_
          refine k_iload_n F (pc := 30) 1 rfl dX4_scan_30 rfl ?_
          refine k_iload_n F (pc := 31) 1 rfl dX4_scan_31 rfl ?_
          refine k_if_ne F (pc := 32) 39 dX4_scan_32 (by decide) (nI_toInt (by omega)) (fun c_94 => ?_) (fun c_94 => ?_)
          · skip
            refine k_iconst F (pc := 39) ((nI 0)) dX4_scan_39 (by decide) ?_
            refine k_zast F (pc := 40) false 2 (fun on_95 => (wX4 E h cd n 0 true on_95 lo hi non nlo nhi fl tlo thi le gr)) dX4_scan_40 rfl rfl (by omega) (by decide) (fun _ => rfl) (fun on_95 eon_95 => ?_)
            refine k_iinc F (pc := 41) 1 ((nI (i + 1))) [(1, .int (nI (i + 1))), (0, .ref (h 0))] dX4_scan_41 rfl (nI_1 i) (by decide) rfl ?_
            refine k_goto F (pc := 44) 20 dX4_scan_44 (by decide) ?_
            refine k_lv [(0, .ref (h 0)), (1, .int (nI (i + 1)))] [1, 0] rfl ?_
            exact ih20 (i + 1) on_95 (by omega) (by omega) (by exact upB_step (P := fun j => decide (j = 0)) (by assumption) hon (by first | (rw [eq_comm, decide_eq_true_iff]; omega) | (rw [eq_comm, decide_eq_false_iff_not]; omega)))
          · skip
            refine k_iconst F (pc := 35) ((nI 1)) dX4_scan_35 (by decide) ?_
            refine k_goto F (pc := 36) 40 dX4_scan_36 (by decide) ?_
            refine k_zast F (pc := 40) true 2 (fun on_96 => (wX4 E h cd n 0 true on_96 lo hi non nlo nhi fl tlo thi le gr)) dX4_scan_40 rfl rfl (by omega) (by decide) (fun _ => rfl) (fun on_96 eon_96 => ?_)
            refine k_iinc F (pc := 41) 1 ((nI (i + 1))) [(1, .int (nI (i + 1))), (0, .ref (h 0))] dX4_scan_41 rfl (nI_1 i) (by decide) rfl ?_
            refine k_goto F (pc := 44) 20 dX4_scan_44 (by decide) ?_
            refine k_lv [(0, .ref (h 0)), (1, .int (nI (i + 1)))] [1, 0] rfl ?_
            exact ih20 (i + 1) on_96 (by omega) (by omega) (by exact upB_step (P := fun j => decide (j = 0)) (by assumption) hon (by first | (rw [eq_comm, decide_eq_true_iff]; omega) | (rw [eq_comm, decide_eq_false_iff_not]; omega)))
    refine k_lv [(0, .ref (h 0)), (1, .int (nI 0))] [1, 0] rfl ?_
    exact L20 (24 - 0 + 1) 0 on (Nat.lt_succ_self _) (by omega) (by intro j hj; omega)
  · skip
    have hb_97 := k_ff hwi c_6
    have hw0 := k_ff hwi c_6
    refine k_iconst F (pc := 11) ((-1)) dX4_scan_11 (by decide) ?_
    refine k_iret F Rr (pc := 12) dX4_scan_12 ⟨(-1), false, 0, on, lo, hi, non, nlo, nhi, fl, tlo, thi, le, gr, rfl, rfl, ?_⟩
    exact Or.inl ⟨hw0, rfl, rfl, rfl⟩
