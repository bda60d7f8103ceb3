/-! closing rows for the reference's flow -/
theorem frep_hi {tlo thi tlo1 thi1 : Nat → Int64} {X : IV × IV} {a : Nat} {l h : Int64} (hF : FRep true tlo thi (some X)) (e : tlo1 = vp_updL tlo a l ∧ thi1 = vp_updL thi a h) : FRep true tlo1 thi1 (some (putI X a l h)) := by
  rw [e.1, e.2]; exact hF.put a l h
theorem flow_1 {cd : Nat → Int32} {p : Nat} {X : IV × IV} {tlo thi tlo1 thi1 : Nat → Int64} (hF : FRep true tlo thi (some X)) (ho : (cd (4 * p)).toInt = 1) (hs : setP tlo thi ((cd (4 * p + 1)).toNatClampNeg) (cd (4 * p + 2)).toInt64 (cd (4 * p + 2)).toInt64 tlo1 thi1) : FRep true tlo1 thi1 (fN cd p X) := by
  rw [fN_1 ho]
  have h1 := (cd (4 * p + 2)).toInt_lt
  have h2 := (cd (4 * p + 2)).le_toInt
  exact frep_hi hF (setP_rng hs (by rw [Int32.toInt_toInt64]; omega) (by rw [Int32.toInt_toInt64]; omega) (by rw [Int32.toInt_toInt64]; omega) (by rw [Int32.toInt_toInt64]; omega))
theorem flow_2 {cd : Nat → Int32} {p : Nat} {X : IV × IV} {tlo thi tlo1 thi1 lo hi : Nat → Int64} (hF : FRep true tlo thi (some X)) (ho : (cd (4 * p)).toInt = 2) (hX : okX X) (hb : (cd (4 * p + 2)).toNatClampNeg < 4) (hR : ∀ v, v < 4 → lo (4 * p + v) = X.1 v ∧ hi (4 * p + v) = X.2 v) (hs : setP tlo thi ((cd (4 * p + 1)).toNatClampNeg) (lo (4 * p + (cd (4 * p + 2)).toNatClampNeg)) (hi (4 * p + (cd (4 * p + 2)).toNatClampNeg)) tlo1 thi1) : FRep true tlo1 thi1 (fN cd p X) := by
  rw [(hR _ hb).1, (hR _ hb).2] at hs
  obtain ⟨h1, h2, h3⟩ := hX _ hb
  rw [fN_2 ho]
  exact frep_hi hF (setP_rng hs h1 (by omega) (by omega) h3)
theorem flow_3 {cd : Nat → Int32} {p : Nat} {X : IV × IV} {fl fl1 : Nat → Bool} {tlo thi tlo1 thi1 lo hi : Nat → Int64} (hF : FRep true tlo thi (some X)) (ho : 3 ≤ (cd (4 * p)).toInt ∧ (cd (4 * p)).toInt ≤ 6) (hb : (cd (4 * p + 2)).toNatClampNeg < 4) (hc : (cd (4 * p + 3)).toNatClampNeg < 4) (hR : ∀ v, v < 4 → lo (4 * p + v) = X.1 v ∧ hi (4 * p + v) = X.2 v) (hs : calcP fl fl1 tlo thi tlo1 thi1 ((cd (4 * p + 1)).toNatClampNeg) (calcR ((cd (4 * p)).toInt) (lo (4 * p + (cd (4 * p + 2)).toNatClampNeg)) (hi (4 * p + (cd (4 * p + 2)).toNatClampNeg)) (lo (4 * p + (cd (4 * p + 3)).toNatClampNeg)) (hi (4 * p + (cd (4 * p + 3)).toNatClampNeg)))) : FRep (fl1 0) tlo1 thi1 (fN cd p X) := by
  rw [(hR _ hb).1, (hR _ hb).2, (hR _ hc).1, (hR _ hc).2] at hs
  rw [fN_3 ho]
  cases hq : calcR ((cd (4 * p)).toInt) (X.1 ((cd (4 * p + 2)).toNatClampNeg)) (X.2 ((cd (4 * p + 2)).toNatClampNeg)) (X.1 ((cd (4 * p + 3)).toNatClampNeg)) (X.2 ((cd (4 * p + 3)).toNatClampNeg)) with
  | none => rw [hq] at hs; rw [hs.1 rfl]; exact frep_none
  | some r =>
    rw [hq] at hs
    obtain ⟨h1, h2⟩ := hs.2.1 r.1 r.2 rfl
    rw [h1]
    by_cases hw : r.1 - r.1.toInt32.toInt64 = r.2 - r.2.toInt32.toInt64
    · simp only [resP, wrapP, if_pos hw]; exact frep_hi hF (h2.1 hw)
    · simp only [resP, wrapP, if_neg hw]; exact frep_hi hF (h2.2 hw)
theorem set_all {tlo thi tlo1 thi1 : Nat → Int64} {a : Nat} (hs : setP tlo thi a (-2147483648) 2147483647 tlo1 thi1) : tlo1 = vp_updL tlo a MINI ∧ thi1 = vp_updL thi a MAXI := setP_rng hs (by decide) (by decide) (by decide) (by decide)
theorem flow_7n {cd : Nat → Int32} {p : Nat} {X : IV × IV} {tlo thi lo hi : Nat → Int64} (ho : (cd (4 * p)).toInt = 7 ∨ (cd (4 * p)).toInt = 8) (hb : (cd (4 * p + 2)).toNatClampNeg < 4) (hR : ∀ v, v < 4 → lo (4 * p + v) = X.1 v ∧ hi (4 * p + v) = X.2 v) (hc : hi (4 * p + (cd (4 * p + 2)).toNatClampNeg) < 0 ∨ 7 < lo (4 * p + (cd (4 * p + 2)).toNatClampNeg)) : FRep false tlo thi (fN cd p X) := by
  rw [(hR _ hb).1, (hR _ hb).2] at hc
  rcases ho with ho | ho
  · rw [fN_7 ho, if_pos hc]; exact frep_none
  · rw [fN_8 ho, if_pos hc]; exact frep_none
theorem flow_7s {cd : Nat → Int32} {p : Nat} {X : IV × IV} {tlo thi tlo1 thi1 lo hi : Nat → Int64} (hF : FRep true tlo thi (some X)) (ho : (cd (4 * p)).toInt = 7) (hb : (cd (4 * p + 2)).toNatClampNeg < 4) (hR : ∀ v, v < 4 → lo (4 * p + v) = X.1 v ∧ hi (4 * p + v) = X.2 v) (h1 : ¬ hi (4 * p + (cd (4 * p + 2)).toNatClampNeg) < 0) (h2 : ¬ 7 < lo (4 * p + (cd (4 * p + 2)).toNatClampNeg)) (hs : setP tlo thi ((cd (4 * p + 1)).toNatClampNeg) (-2147483648) 2147483647 tlo1 thi1) : FRep true tlo1 thi1 (fN cd p X) := by
  rw [(hR _ hb).2] at h1
  rw [(hR _ hb).1] at h2
  rw [fN_7 ho, if_neg (by rintro (h | h); exact h1 h; exact h2 h)]
  exact frep_hi hF (set_all hs)
theorem flow_8s {cd : Nat → Int32} {p : Nat} {X : IV × IV} {tlo thi lo hi : Nat → Int64} (hF : FRep true tlo thi (some X)) (ho : (cd (4 * p)).toInt = 8) (hb : (cd (4 * p + 2)).toNatClampNeg < 4) (hR : ∀ v, v < 4 → lo (4 * p + v) = X.1 v ∧ hi (4 * p + v) = X.2 v) (h1 : ¬ hi (4 * p + (cd (4 * p + 2)).toNatClampNeg) < 0) (h2 : ¬ 7 < lo (4 * p + (cd (4 * p + 2)).toNatClampNeg)) : FRep true tlo thi (fN cd p X) := by
  rw [(hR _ hb).2] at h1
  rw [(hR _ hb).1] at h2
  rw [fN_8 ho, if_neg (by rintro (h | h); exact h1 h; exact h2 h)]
  exact hF
theorem flow_11 {cd : Nat → Int32} {p : Nat} {X : IV × IV} {tlo thi tlo1 thi1 : Nat → Int64} (hF : FRep true tlo thi (some X)) (ho : (cd (4 * p)).toInt = 11) (hs : setP tlo thi ((cd (4 * p + 1)).toNatClampNeg) (-2147483648) 2147483647 tlo1 thi1) : FRep true tlo1 thi1 (fN cd p X) := by
  rw [fN_11 ho]; exact frep_hi hF (set_all hs)
theorem frep_b {b : Bool} {tlo thi : Nat → Int64} {F : Option (IV × IV)} {v : Bool} (hb : b = v) (h : FRep v tlo thi F) : FRep b tlo thi F := by rw [hb]; exact h
theorem bff {b : Bool} {P : Prop} (h : b = true ↔ P) (hp : ¬ P) : b = false := by
  cases b with
  | false => rfl
  | true => exact absurd (h.mp rfl) hp
/-- the two flows of a comparison -/
theorem cmp_no {lo hi tlo thi tlo1 thi1 : Nat → Int64} {p a b : Nat} {X : IV × IV} {z : Bool} (ha : a < 4) (hb : b < 4) (hab : ¬ a = b) (hR : ∀ v, v < 4 → lo (4 * p + v) = X.1 v ∧ hi (4 * p + v) = X.2 v) (hcp : ∀ v, v < 4 → tlo v = lo (4 * p + v) ∧ thi v = hi (4 * p + v)) (h1 : ∀ v, v < 4 → tlo1 v = vp_updL tlo a (mx (lo (4 * p + a)) (lo (4 * p + b))) v) (h2 : ∀ v, v < 4 → thi1 v = vp_updL thi b (mn (hi (4 * p + b)) (hi (4 * p + a))) v) (hz : z = true ↔ ¬ thi1 a < tlo1 a ∧ ¬ thi1 b < tlo1 b) : FRep z tlo1 thi1 (unlessX (cmpN X a b) a b) := by
  have e1 : ∀ v, v < 4 → tlo1 v = (cmpN X a b).1 v := fun v hv => by
    rw [h1 v hv]
    simp only [cmpN, vp_updL, (hR a ha).1, (hR b hb).1]
    by_cases h : v = a
    · rw [if_pos h, if_pos h]
    · rw [if_neg h, if_neg h, (hcp v hv).1, (hR v hv).1]
  have e2 : ∀ v, v < 4 → thi1 v = (cmpN X a b).2 v := fun v hv => by
    rw [h2 v hv]
    simp only [cmpN, vp_updL, (hR a ha).2, (hR b hb).2]
    by_cases h : v = b
    · rw [if_pos h, if_pos h]
    · rw [if_neg h, if_neg h, (hcp v hv).2, (hR v hv).2]
  rw [e1 a ha, e1 b hb, e2 a ha, e2 b hb] at hz
  rw [unlessX]
  by_cases hc : (cmpN X a b).2 a < (cmpN X a b).1 a ∨ (cmpN X a b).2 b < (cmpN X a b).1 b
  · rw [if_pos hc, bff hz (fun h => hc.elim h.1 h.2)]; exact frep_none
  · rw [if_neg hc]
    refine ⟨fun h => (by cases h), fun Y hY => ?_⟩
    cases hY
    exact ⟨hz.mpr ⟨fun h => hc (Or.inl h), fun h => hc (Or.inr h)⟩, fun v hv => ⟨e1 v hv, e2 v hv⟩⟩
theorem cmp_yes {lo hi tlo thi tlo1 thi1 : Nat → Int64} {p a b : Nat} {X : IV × IV} {z : Bool} (ha : a < 4) (hb : b < 4) (hab : ¬ a = b) (hR : ∀ v, v < 4 → lo (4 * p + v) = X.1 v ∧ hi (4 * p + v) = X.2 v) (hcp : ∀ v, v < 4 → tlo v = lo (4 * p + v) ∧ thi v = hi (4 * p + v)) (h1 : ∀ v, v < 4 → tlo1 v = vp_updL tlo b (mx (lo (4 * p + b)) (lo (4 * p + a) + 1)) v) (h2 : ∀ v, v < 4 → thi1 v = vp_updL thi a (mn (hi (4 * p + a)) (hi (4 * p + b) - 1)) v) (hz : z = true ↔ ¬ thi1 a < tlo1 a ∧ ¬ thi1 b < tlo1 b) : FRep z tlo1 thi1 (unlessX (cmpP X a b) a b) := by
  have e1 : ∀ v, v < 4 → tlo1 v = (cmpP X a b).1 v := fun v hv => by
    rw [h1 v hv]
    simp only [cmpP, vp_updL, (hR a ha).1, (hR b hb).1]
    by_cases h : v = b
    · rw [if_pos h, if_pos h]
    · rw [if_neg h, if_neg h, (hcp v hv).1, (hR v hv).1]
  have e2 : ∀ v, v < 4 → thi1 v = (cmpP X a b).2 v := fun v hv => by
    rw [h2 v hv]
    simp only [cmpP, vp_updL, (hR a ha).2, (hR b hb).2]
    by_cases h : v = a
    · rw [if_pos h, if_pos h]
    · rw [if_neg h, if_neg h, (hcp v hv).2, (hR v hv).2]
  rw [e1 a ha, e1 b hb, e2 a ha, e2 b hb] at hz
  rw [unlessX]
  by_cases hc : (cmpP X a b).2 a < (cmpP X a b).1 a ∨ (cmpP X a b).2 b < (cmpP X a b).1 b
  · rw [if_pos hc, bff hz (fun h => hc.elim h.1 h.2)]; exact frep_none
  · rw [if_neg hc]
    refine ⟨fun h => (by cases h), fun Y hY => ?_⟩
    cases hY
    exact ⟨hz.mpr ⟨fun h => hc (Or.inl h), fun h => hc (Or.inr h)⟩, fun v hv => ⟨e1 v hv, e2 v hv⟩⟩
theorem updL_t {f f1 : Nat → Int64} {k : Nat} {x y : Int64} (h : f1 = vp_updL f k y) (e : x = y) : f1 = vp_updL f k x := by rw [h, e]
theorem updL_f {f : Nat → Int64} {k : Nat} {x : Int64} (e : x = f k) : f = vp_updL f k x := by rw [e, updL_same]
theorem cmp_fin {lo hi tlo thi tlo1 thi1 tlo2 thi2 : Nat → Int64} {fl : Nat → Bool} {p a b : Nat} {X : IV × IV} {z z2 : Bool} (ha : a < 4) (hb : b < 4) (hab : ¬ a = b) (hR : ∀ v, v < 4 → lo (4 * p + v) = X.1 v ∧ hi (4 * p + v) = X.2 v) (hcp : ∀ v, v < 4 → tlo v = lo (4 * p + v) ∧ thi v = hi (4 * p + v) ∧ tlo (4 + v) = lo (4 * p + v) ∧ thi (4 + v) = hi (4 * p + v)) (h1 : tlo1 = vp_updL tlo a (mx (lo (4 * p + a)) (lo (4 * p + b)))) (h2 : thi1 = vp_updL thi b (mn (hi (4 * p + b)) (hi (4 * p + a)))) (hz : z = true ↔ ¬ thi1 a < tlo1 a ∧ ¬ thi1 b < tlo1 b) (h3 : thi2 = vp_updL thi1 (4 + a) (mn (hi (4 * p + a)) (hi (4 * p + b) - 1))) (h4 : tlo2 = vp_updL tlo1 (4 + b) (mx (lo (4 * p + b)) (lo (4 * p + a) + 1))) (hz2 : z2 = true ↔ ¬ thi2 (4 + a) < tlo2 (4 + a) ∧ ¬ thi2 (4 + b) < tlo2 (4 + b)) : FRep z tlo2 thi2 (unlessX (cmpN X a b) a b) ∧ FRep z2 (fun v => tlo2 (4 + v)) (fun v => thi2 (4 + v)) (unlessX (cmpP X a b) a b) := by
  have g1 : ∀ v, v < 4 → tlo2 v = tlo1 v := fun v hv => by rw [h4]; simp only [vp_updL, if_neg (show ¬ v = 4 + b by omega)]
  have g2 : ∀ v, v < 4 → thi2 v = thi1 v := fun v hv => by rw [h3]; simp only [vp_updL, if_neg (show ¬ v = 4 + a by omega)]
  refine ⟨cmp_no ha hb hab hR (fun v hv => ⟨(hcp v hv).1, (hcp v hv).2.1⟩) (fun v hv => by rw [g1 v hv, h1]) (fun v hv => by rw [g2 v hv, h2]) (by rw [g1 a ha, g1 b hb, g2 a ha, g2 b hb]; exact hz), ?_⟩
  refine cmp_yes (tlo := fun v => tlo (4 + v)) (thi := fun v => thi (4 + v)) ha hb hab hR (fun v hv => ⟨(hcp v hv).2.2.1, (hcp v hv).2.2.2⟩) (fun v hv => ?_) (fun v hv => ?_) hz2
  · rw [h4, h1]
    simp only [vp_updL, show (4 + v = 4 + b) = (v = b) from propext (by omega), if_neg (show ¬ 4 + v = a by omega)]
  · rw [h3, h2]
    simp only [vp_updL, show (4 + v = 4 + a) = (v = a) from propext (by omega), if_neg (show ¬ 4 + v = b by omega)]
theorem flow_cp {lo hi tl th tl1 th1 tl2 th2 : Nat → Int64} {p i : Nat} (h : ∀ v, v < i → tl v = lo (4 * p + v) ∧ th v = hi (4 * p + v) ∧ tl (4 + v) = lo (4 * p + v) ∧ th (4 + v) = hi (4 * p + v)) (hi4 : i < 4) (e1 : tl1 = vp_updL tl i (lo (4 * p + i))) (e2 : th1 = vp_updL th i (hi (4 * p + i))) (e3 : tl2 = vp_updL tl1 (4 + i) (tl1 i)) (e4 : th2 = vp_updL th1 (4 + i) (th1 i)) : ∀ v, v < i + 1 → tl2 v = lo (4 * p + v) ∧ th2 v = hi (4 * p + v) ∧ tl2 (4 + v) = lo (4 * p + v) ∧ th2 (4 + v) = hi (4 * p + v) := by
  intro v hv
  subst e3; subst e4; subst e1; subst e2
  by_cases hvi : v = i
  · subst hvi
    simp [vp_updL, show ¬ v = 4 + v by omega]
  · obtain ⟨h1, h2, h3, h4⟩ := h v (by omega)
    simp only [vp_updL, if_neg hvi, if_neg (show ¬ v = 4 + i by omega), if_neg (show ¬ 4 + v = 4 + i by omega), if_neg (show ¬ 4 + v = i by omega)]
    exact ⟨h1, h2, h3, h4⟩
