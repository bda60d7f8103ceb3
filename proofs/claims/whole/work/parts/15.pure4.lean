theorem exr_f {o : Int32} {f t : Int64} (h : t < f ∨ o.toInt = 3 ∨ o.toInt = 4 ∨ o.toInt = 5 ∨ (¬ f = 0 ∧ ¬ t = 0)) (hn : ¬ t < f) : o.toInt = 3 ∨ o.toInt = 4 ∨ o.toInt = 5 ∨ ¬ f = 0 := by
  rcases h with h | h | h | h | h
  · exact absurd h hn
  · exact Or.inl h
  · exact Or.inr (Or.inl h)
  · exact Or.inr (Or.inr (Or.inl h))
  · exact Or.inr (Or.inr (Or.inr h.1))
theorem exr_t {o : Int32} {f t : Int64} (h : t < f ∨ o.toInt = 3 ∨ o.toInt = 4 ∨ o.toInt = 5 ∨ (¬ f = 0 ∧ ¬ t = 0)) (hn : ¬ t < f) : o.toInt = 3 ∨ o.toInt = 4 ∨ o.toInt = 5 ∨ ¬ t = 0 := by
  rcases h with h | h | h | h | h
  · exact absurd h hn
  · exact Or.inl h
  · exact Or.inr (Or.inl h)
  · exact Or.inr (Or.inr (Or.inl h))
  · exact Or.inr (Or.inr (Or.inr h.2))
theorem L_eqT {x y : Int64} : x = y ↔ x.toInt = y.toInt := ⟨fun h => by rw [h], fun h => Int64.toInt_inj.mp h⟩
theorem L_m1 : (-1 : Int64).toInt = -1 := by decide
theorem L_0 : (0 : Int64).toInt = 0 := by decide
theorem L_1 : (1 : Int64).toInt = 1 := by decide
theorem neg_part {o : Int32} {f t : Int64} : (if -1 < t then -1 else t) < f ∨ o.toInt = 3 ∨ o.toInt = 4 ∨ o.toInt = 5 ∨ (¬ f = 0 ∧ ¬ (if -1 < t then -1 else t) = 0) := by
  by_cases h : (if -1 < t then -1 else t) < f
  · exact Or.inl h
  · refine Or.inr (Or.inr (Or.inr (Or.inr ?_)))
    revert h
    simp only [L_eqT, Int64.lt_iff_toInt_lt, L_m1, L_0]
    by_cases h1 : -1 < t.toInt
    · simp only [h1, if_true, L_m1]; omega
    · simp only [h1, if_false]; omega
theorem pos_part {o : Int32} {f t : Int64} : t < (if 1 < f then f else 1) ∨ o.toInt = 3 ∨ o.toInt = 4 ∨ o.toInt = 5 ∨ (¬ (if 1 < f then f else 1) = 0 ∧ ¬ t = 0) := by
  by_cases h : t < (if 1 < f then f else 1)
  · exact Or.inl h
  · refine Or.inr (Or.inr (Or.inr (Or.inr ?_)))
    revert h
    simp only [L_eqT, Int64.lt_iff_toInt_lt, L_1, L_0]
    by_cases h1 : 1 < f.toInt
    · simp only [h1, if_true]; omega
    · simp only [h1, if_false, L_1]; omega
theorem calc6 {x y f t : Int64} (h : f.toInt ≤ t.toInt) : (if t < (if 1 < f then f else 1) then (if (if -1 < t then -1 else t) < f then none else tk4 6 x y f (if -1 < t then -1 else t) none) else tk4 6 x y (if 1 < f then f else 1) t (if (if -1 < t then -1 else t) < f then none else tk4 6 x y f (if -1 < t then -1 else t) none)) = calcR 6 x y f t := by
  have e1 : (if -1 < t then -1 else t) = (if t < 0 then t else (-1 : Int64)) := by
    simp only [Int64.lt_iff_toInt_lt, L_m1, L_0]
    by_cases h1 : -1 < t.toInt
    · rw [if_pos h1, if_neg (by omega)]
    · rw [if_neg h1, if_pos (by omega)]
  have e2 : ((if t < 0 then t else (-1 : Int64)) < f) ↔ ¬ f < 0 := by
    simp only [Int64.lt_iff_toInt_lt, L_0]
    by_cases h1 : t.toInt < 0
    · simp only [h1, if_true]; omega
    · simp only [h1, if_false, L_m1]; omega
  have e3 : (if 1 < f then f else (1 : Int64)) = (if 0 < f then f else 1) := by
    simp only [Int64.lt_iff_toInt_lt, L_0, L_1]
    by_cases h1 : 1 < f.toInt
    · rw [if_pos h1, if_pos (by omega)]
    · by_cases h2 : 0 < f.toInt
      · rw [if_neg h1, if_pos h2]; rw [L_eqT, L_1]; omega
      · rw [if_neg h1, if_neg h2]
  have e4 : (t < (if 0 < f then f else (1 : Int64))) ↔ ¬ 0 < t := by
    simp only [Int64.lt_iff_toInt_lt, L_0]
    by_cases h1 : 0 < f.toInt
    · simp only [h1, if_true]; omega
    · simp only [h1, if_false, L_1]; omega
  rw [e1, e3, calcR, if_pos rfl]
  have e5 : (if (if t < 0 then t else (-1 : Int64)) < f then none else tk4 6 x y f (if t < 0 then t else -1) none) = calc1 x y f t := by
    unfold calc1
    by_cases h1 : f < 0
    · rw [if_neg (fun h => (e2.mp h) h1), if_pos h1]
    · rw [if_pos (e2.mpr h1), if_neg h1]
  rw [e5]
  by_cases h1 : 0 < t
  · rw [if_neg (fun h => (e4.mp h) h1), if_pos h1]
  · rw [if_pos (e4.mpr h1), if_neg h1]
theorem RRep.none_of {le gr : Int64} {o : RS} (h : RRep true le gr o) : o = none := by
  rcases o with _ | ⟨a, b⟩
  · rfl
  · exact absurd (h.2 a b rfl).1 (by decide)
theorem RRep.some_of {le gr : Int64} {o : RS} (h : RRep false le gr o) : o = some (le, gr) := by
  rcases o with _ | ⟨a, b⟩
  · exact absurd (h.1 rfl) (by decide)
  · rw [(h.2 a b rfl).2.1, (h.2 a b rfl).2.2]
theorem frep_none {lf hf : Nat → Int64} : FRep false lf hf none := ⟨fun _ => rfl, fun X h => by cases h⟩
theorem FRep.put {fs : Bool} {lf hf : Nat → Int64} {X : IV × IV} (h : FRep fs lf hf (some X)) (a : Nat) (l r : Int64) : FRep fs (vp_updL lf a l) (vp_updL hf a r) (some (putI X a l r)) := by
  refine ⟨fun h => (by cases h), fun Y hY => ?_⟩
  cases hY
  refine ⟨(h.2 X rfl).1, fun v hv => ?_⟩
  by_cases hva : v = a
  · subst hva; simp [putI, vp_updL]
  · simp only [putI, vp_updL, if_neg hva]; exact (h.2 X rfl).2 v hv
theorem putRes_w {fs : Bool} {lf hf : Nat → Int64} {le gr : Int64} {a : Nat} (hw : le - le.toInt32.toInt64 = gr - gr.toInt32.toInt64) : ∀ X, FRep fs lf hf (some X) → FRep fs (vp_updL lf a le.toInt32.toInt64) (vp_updL hf a gr.toInt32.toInt64) (resP X a (some (le, gr))) := fun X h => by
  simp only [resP, wrapP, if_pos hw]; exact h.put a _ _
theorem putRes_n {fs : Bool} {lf hf : Nat → Int64} {le gr : Int64} {a : Nat} (hw : ¬ le - le.toInt32.toInt64 = gr - gr.toInt32.toInt64) : ∀ X, FRep fs lf hf (some X) → FRep fs (vp_updL lf a (-2147483648)) (vp_updL hf a 2147483647) (resP X a (some (le, gr))) := fun X h => by
  simp only [resP, wrapP, if_neg hw]; exact h.put a _ _
theorem keepN_fin {fs fs1 fs2 : Bool} {lf hf : Nat → Int64} {a b : Nat} (ha : a < 4) (hb : b < 4) (hab : ¬ a = b) (h1 : fs1 = true ↔ fs = true ∧ ¬ hf a < mx (lf a) (lf b)) (h2 : fs2 = true ↔ fs1 = true ∧ ¬ mn (hf b) (hf a) < vp_updL lf a (mx (lf a) (lf b)) b) : ∀ X, FRep fs lf hf (some X) → FRep fs2 (vp_updL lf a (mx (lf a) (lf b))) (vp_updL hf b (mn (hf b) (hf a))) (unlessX (cmpN X a b) a b) := by
  intro X hX
  obtain ⟨hfs, hv⟩ := hX.2 X rfl
  obtain ⟨ea, ea'⟩ := hv a ha
  obtain ⟨eb, eb'⟩ := hv b hb
  have hba : ¬ b = a := fun h => hab h.symm
  simp only [vp_updL, if_neg hba] at h2
  rw [h1] at h2
  by_cases hc : (cmpN X a b).2 a < (cmpN X a b).1 a ∨ (cmpN X a b).2 b < (cmpN X a b).1 b
  · rw [unlessX, if_pos hc]
    refine ⟨fun _ => ?_, fun Y h => by cases h⟩
    simp only [cmpN, vp_updL, if_true, if_neg hab, if_neg hba, ← ea, ← ea', ← eb, ← eb'] at hc
    cases h : fs2 with
    | false => rfl
    | true =>
      exfalso
      obtain ⟨⟨-, q1⟩, q2⟩ := h2.mp h
      rcases hc with hc | hc
      · exact q1 hc
      · exact q2 hc
  · rw [unlessX, if_neg hc]
    refine ⟨fun h => (by cases h), fun Y hY => ?_⟩
    cases hY
    refine ⟨h2.mpr ⟨⟨hfs, fun q => hc (Or.inl ?_)⟩, fun q => hc (Or.inr ?_)⟩, fun v hv4 => ?_⟩
    · simp only [cmpN, vp_updL, if_true, if_neg hab, ← ea, ← ea', ← eb, ← eb']; exact q
    · simp only [cmpN, vp_updL, if_true, if_neg hba, ← ea, ← ea', ← eb, ← eb']; exact q
    · simp only [cmpN, vp_updL, ← ea, ← ea', ← eb, ← eb']
      refine ⟨?_, ?_⟩
      · by_cases h : v = a
        · rw [if_pos h, if_pos h]
        · rw [if_neg h, if_neg h]; exact (hv v hv4).1
      · by_cases h : v = b
        · rw [if_pos h, if_pos h]
        · rw [if_neg h, if_neg h]; exact (hv v hv4).2
theorem keepL_fin {fs fs1 fs2 : Bool} {lf hf : Nat → Int64} {a b : Nat} (ha : a < 4) (hb : b < 4) (hab : ¬ a = b) (h1 : fs1 = true ↔ fs = true ∧ ¬ mn (hf a) (hf b - 1) < lf a) (h2 : fs2 = true ↔ fs1 = true ∧ ¬ vp_updL hf a (mn (hf a) (hf b - 1)) b < mx (lf b) (lf a + 1)) : ∀ X, FRep fs lf hf (some X) → FRep fs2 (vp_updL lf b (mx (lf b) (lf a + 1))) (vp_updL hf a (mn (hf a) (hf b - 1))) (unlessX (cmpP X a b) a b) := by
  intro X hX
  obtain ⟨hfs, hv⟩ := hX.2 X rfl
  obtain ⟨ea, ea'⟩ := hv a ha
  obtain ⟨eb, eb'⟩ := hv b hb
  have hba : ¬ b = a := fun h => hab h.symm
  simp only [vp_updL, if_neg hba] at h2
  rw [h1] at h2
  by_cases hc : (cmpP X a b).2 a < (cmpP X a b).1 a ∨ (cmpP X a b).2 b < (cmpP X a b).1 b
  · rw [unlessX, if_pos hc]
    refine ⟨fun _ => ?_, fun Y h => by cases h⟩
    simp only [cmpP, vp_updL, if_true, if_neg hab, if_neg hba, ← ea, ← ea', ← eb, ← eb'] at hc
    cases h : fs2 with
    | false => rfl
    | true =>
      exfalso
      obtain ⟨⟨-, q1⟩, q2⟩ := h2.mp h
      rcases hc with hc | hc
      · exact q1 hc
      · exact q2 hc
  · rw [unlessX, if_neg hc]
    refine ⟨fun h => (by cases h), fun Y hY => ?_⟩
    cases hY
    refine ⟨h2.mpr ⟨⟨hfs, fun q => hc (Or.inl ?_)⟩, fun q => hc (Or.inr ?_)⟩, fun v hv4 => ?_⟩
    · simp only [cmpP, vp_updL, if_true, if_neg hab, ← ea, ← ea', ← eb, ← eb']; exact q
    · simp only [cmpP, vp_updL, if_true, if_neg hba, ← ea, ← ea', ← eb, ← eb']; exact q
    · simp only [cmpP, vp_updL, ← ea, ← ea', ← eb, ← eb']
      refine ⟨?_, ?_⟩
      · by_cases h : v = b
        · rw [if_pos h, if_pos h]
        · rw [if_neg h, if_neg h]; exact (hv v hv4).1
      · by_cases h : v = a
        · rw [if_pos h, if_pos h]
        · rw [if_neg h, if_neg h]; exact (hv v hv4).2
theorem fN_1 {cd : Nat → Int32} {p : Nat} {X : IV × IV} (h : (cd (4 * p)).toInt = 1) : fN cd p X = some (putI X ((cd (4 * p + 1)).toNatClampNeg) (cd (4 * p + 2)).toInt64 (cd (4 * p + 2)).toInt64) := by rw [fN, if_pos h]
theorem fN_2 {cd : Nat → Int32} {p : Nat} {X : IV × IV} (h : (cd (4 * p)).toInt = 2) : fN cd p X = some (putI X ((cd (4 * p + 1)).toNatClampNeg) (X.1 ((cd (4 * p + 2)).toNatClampNeg)) (X.2 ((cd (4 * p + 2)).toNatClampNeg))) := by rw [fN, if_neg (by omega), if_pos h]
theorem fN_3 {cd : Nat → Int32} {p : Nat} {X : IV × IV} (h : 3 ≤ (cd (4 * p)).toInt ∧ (cd (4 * p)).toInt ≤ 6) : fN cd p X = resP X ((cd (4 * p + 1)).toNatClampNeg) (calcR ((cd (4 * p)).toInt) (X.1 ((cd (4 * p + 2)).toNatClampNeg)) (X.2 ((cd (4 * p + 2)).toNatClampNeg)) (X.1 ((cd (4 * p + 3)).toNatClampNeg)) (X.2 ((cd (4 * p + 3)).toNatClampNeg))) := by rw [fN, if_neg (by omega), if_neg (by omega), if_pos h]
theorem fN_7 {cd : Nat → Int32} {p : Nat} {X : IV × IV} (h : (cd (4 * p)).toInt = 7) : fN cd p X = if X.2 ((cd (4 * p + 2)).toNatClampNeg) < 0 ∨ 7 < X.1 ((cd (4 * p + 2)).toNatClampNeg) then none else some (putI X ((cd (4 * p + 1)).toNatClampNeg) MINI MAXI) := by rw [fN, if_neg (by omega), if_neg (by omega), if_neg (by omega), if_pos h]
theorem fN_8 {cd : Nat → Int32} {p : Nat} {X : IV × IV} (h : (cd (4 * p)).toInt = 8) : fN cd p X = if X.2 ((cd (4 * p + 2)).toNatClampNeg) < 0 ∨ 7 < X.1 ((cd (4 * p + 2)).toNatClampNeg) then none else some X := by rw [fN, if_neg (by omega), if_neg (by omega), if_neg (by omega), if_neg (by omega), if_pos h]
theorem fN_9 {cd : Nat → Int32} {p : Nat} {X : IV × IV} (h : (cd (4 * p)).toInt = 9) : fN cd p X = if (cd (4 * p + 1)).toNatClampNeg = (cd (4 * p + 2)).toNatClampNeg then some X else unlessX (cmpN X ((cd (4 * p + 1)).toNatClampNeg) ((cd (4 * p + 2)).toNatClampNeg)) ((cd (4 * p + 1)).toNatClampNeg) ((cd (4 * p + 2)).toNatClampNeg) := by rw [fN, if_neg (by omega), if_neg (by omega), if_neg (by omega), if_neg (by omega), if_neg (by omega), if_pos h]
theorem fN_11 {cd : Nat → Int32} {p : Nat} {X : IV × IV} (h : (cd (4 * p)).toInt = 11) : fN cd p X = some (putI X ((cd (4 * p + 1)).toNatClampNeg) MINI MAXI) := by rw [fN, if_neg (by omega), if_neg (by omega), if_neg (by omega), if_neg (by omega), if_neg (by omega), if_neg (by omega), if_pos h]
theorem fN_no {cd : Nat → Int32} {p : Nat} {X : IV × IV} (h : (cd (4 * p)).toInt = 0 ∨ (cd (4 * p)).toInt = 10) : fN cd p X = none := by rw [fN, if_neg (by omega), if_neg (by omega), if_neg (by omega), if_neg (by omega), if_neg (by omega), if_neg (by omega), if_neg (by omega)]
theorem fP_9 {cd : Nat → Int32} {p : Nat} {X : IV × IV} (h : (cd (4 * p)).toInt = 9) : fP cd p X = if (cd (4 * p + 1)).toNatClampNeg = (cd (4 * p + 2)).toNatClampNeg then none else unlessX (cmpP X ((cd (4 * p + 1)).toNatClampNeg) ((cd (4 * p + 2)).toNatClampNeg)) ((cd (4 * p + 1)).toNatClampNeg) ((cd (4 * p + 2)).toNatClampNeg) := by rw [fP, if_pos h]
theorem fP_10 {cd : Nat → Int32} {p : Nat} {X : IV × IV} (h : (cd (4 * p)).toInt = 10) : fP cd p X = some X := by rw [fP, if_neg (by omega), if_pos h]
theorem fP_no {cd : Nat → Int32} {p : Nat} {X : IV × IV} (h1 : ¬ (cd (4 * p)).toInt = 9) (h2 : ¬ (cd (4 * p)).toInt = 10) : fP cd p X = none := by rw [fP, if_neg h1, if_neg h2]
theorem cp_rep {lf hf : Nat → Int64} {lo hi : Nat → Int64} {p : Nat} {X : IV × IV} (h : ∀ v, v < 4 → lf v = lo (4 * p + v) ∧ hf v = hi (4 * p + v)) (hR : ∀ v, v < 4 → lo (4 * p + v) = X.1 v ∧ hi (4 * p + v) = X.2 v) : FRep true lf hf (some X) := ⟨fun h => (by cases h), fun Y hY => by cases hY; exact ⟨rfl, fun v hv => ⟨(h v hv).1.trans (hR v hv).1, (h v hv).2.trans (hR v hv).2⟩⟩⟩
theorem next_2 {cd : Nat → Int32} {p : Nat} {X : IV × IV} {fs : Bool} {lf hf : Nat → Int64} (h : FRep fs lf hf (some X)) (ho : (cd (4 * p)).toInt = 2) (hb : (cd (4 * p + 2)).toNatClampNeg < 4) : FRep fs (vp_updL lf ((cd (4 * p + 1)).toNatClampNeg) (lf ((cd (4 * p + 2)).toNatClampNeg))) (vp_updL hf ((cd (4 * p + 1)).toNatClampNeg) (hf ((cd (4 * p + 2)).toNatClampNeg))) (fN cd p X) := by
  rw [fN_2 ho, ← ((h.2 X rfl).2 _ hb).1, ← ((h.2 X rfl).2 _ hb).2]; exact h.put _ _ _
theorem next_3 {cd : Nat → Int32} {p : Nat} {X : IV × IV} {fs fs1 : Bool} {lf hf lf1 hf1 : Nat → Int64} (h : FRep fs lf hf (some X)) (ho : 3 ≤ (cd (4 * p)).toInt ∧ (cd (4 * p)).toInt ≤ 6) (hb : (cd (4 * p + 2)).toNatClampNeg < 4) (hc : (cd (4 * p + 3)).toNatClampNeg < 4) (hq : ∀ X, FRep fs lf hf (some X) → FRep fs1 lf1 hf1 (resP X ((cd (4 * p + 1)).toNatClampNeg) (calcR ((cd (4 * p)).toInt) (lf ((cd (4 * p + 2)).toNatClampNeg)) (hf ((cd (4 * p + 2)).toNatClampNeg)) (lf ((cd (4 * p + 3)).toNatClampNeg)) (hf ((cd (4 * p + 3)).toNatClampNeg))))) : FRep fs1 lf1 hf1 (fN cd p X) := by
  have := hq X h
  rw [((h.2 X rfl).2 _ hb).1, ((h.2 X rfl).2 _ hb).2, ((h.2 X rfl).2 _ hc).1, ((h.2 X rfl).2 _ hc).2] at this
  rw [fN_3 ho]; exact this
theorem next_7 {cd : Nat → Int32} {p : Nat} {X : IV × IV} {fs fs1 : Bool} {lf hf : Nat → Int64} (h : FRep fs lf hf (some X)) (ho : (cd (4 * p)).toInt = 7) (hb : (cd (4 * p + 2)).toNatClampNeg < 4) (hq : (hf ((cd (4 * p + 2)).toNatClampNeg) < 0 ∨ 7 < lf ((cd (4 * p + 2)).toNatClampNeg) → fs1 = false) ∧ (¬ (hf ((cd (4 * p + 2)).toNatClampNeg) < 0 ∨ 7 < lf ((cd (4 * p + 2)).toNatClampNeg)) → fs1 = fs)) : FRep fs1 (vp_updL lf ((cd (4 * p + 1)).toNatClampNeg) (-2147483648)) (vp_updL hf ((cd (4 * p + 1)).toNatClampNeg) 2147483647) (fN cd p X) := by
  rw [((h.2 X rfl).2 _ hb).1, ((h.2 X rfl).2 _ hb).2] at hq
  rw [fN_7 ho]
  by_cases hc : X.2 ((cd (4 * p + 2)).toNatClampNeg) < 0 ∨ 7 < X.1 ((cd (4 * p + 2)).toNatClampNeg)
  · rw [if_pos hc, hq.1 hc]; exact frep_none
  · rw [if_neg hc, hq.2 hc]; exact h.put _ _ _
theorem next_8 {cd : Nat → Int32} {p : Nat} {X : IV × IV} {fs fs1 : Bool} {lf hf : Nat → Int64} (h : FRep fs lf hf (some X)) (ho : (cd (4 * p)).toInt = 8) (hb : (cd (4 * p + 2)).toNatClampNeg < 4) (hq : (hf ((cd (4 * p + 2)).toNatClampNeg) < 0 ∨ 7 < lf ((cd (4 * p + 2)).toNatClampNeg) → fs1 = false) ∧ (¬ (hf ((cd (4 * p + 2)).toNatClampNeg) < 0 ∨ 7 < lf ((cd (4 * p + 2)).toNatClampNeg)) → fs1 = fs)) : FRep fs1 lf hf (fN cd p X) := by
  rw [((h.2 X rfl).2 _ hb).1, ((h.2 X rfl).2 _ hb).2] at hq
  rw [fN_8 ho]
  by_cases hc : X.2 ((cd (4 * p + 2)).toNatClampNeg) < 0 ∨ 7 < X.1 ((cd (4 * p + 2)).toNatClampNeg)
  · rw [if_pos hc, hq.1 hc]; exact frep_none
  · rw [if_neg hc, hq.2 hc]; exact h
