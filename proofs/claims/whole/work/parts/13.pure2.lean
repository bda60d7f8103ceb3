theorem k_toN {x : Int32} {q : Nat} (h : x.toInt = (q : Int)) (hq : q < 2 ^ 31) : x = nI q := Int32.toInt_inj.mp (by rw [h, nI_toInt hq])
theorem rep_S0 {on : Nat → Bool} {lo hi : Nat → Int64} (h1 : ∀ j, j < 24 → on j = decide (j = 0)) (h2 : ∀ j, j < 4 → lo j = 0 ∧ hi j = 0) : Rep on lo hi S0 := by
  intro q hq
  refine ⟨fun h => ?_, fun X h => ?_⟩
  · rw [h1 q hq]
    by_cases h0 : q = 0
    · subst h0; simp [S0] at h
    · simp [h0]
  · by_cases h0 : q = 0
    · subst h0
      simp only [S0, if_true, Option.some.injEq] at h
      subst h
      refine ⟨by rw [h1 0 (by omega)]; rfl, fun v hv => ?_⟩
      simpa using h2 v hv
    · simp [S0, h0] at h
theorem take_step {u : Int64 → Int64 → Int64} {lo lo2 lo1 lf : Nat → Int64} {q i : Nat} (h : ∀ j, lo2 j = if 4 * q ≤ j ∧ j < 4 * q + i then u (lo j) (lf (j - 4 * q)) else lo j) (e : lo1 = vp_updL lo2 (4 * q + i) (u (lo2 (4 * q + i)) (lf i))) : ∀ j, lo1 j = if 4 * q ≤ j ∧ j < 4 * q + (i + 1) then u (lo j) (lf (j - 4 * q)) else lo j := by
  intro j
  subst e
  by_cases hj : j = 4 * q + i
  · subst hj
    have e1 : 4 * q + i - 4 * q = i := by omega
    rw [if_pos (by omega), e1]
    have e2 := h (4 * q + i)
    rw [if_neg (by omega)] at e2
    simp [vp_updL, e2]
  · simp only [vp_updL, if_neg hj, h j]
    by_cases hc : 4 * q ≤ j ∧ j < 4 * q + i
    · rw [if_pos hc, if_pos (by omega)]
    · rw [if_neg hc, if_neg (by omega)]
theorem chgTo_congr {X Y T U : IV × IV} : ∀ {k : Nat}, (∀ v, v < k → X.1 v = Y.1 v ∧ X.2 v = Y.2 v ∧ T.1 v = U.1 v ∧ T.2 v = U.2 v) → chgTo X T k = chgTo Y U k
  | 0, _ => rfl
  | k + 1, h => by
    obtain ⟨e1, e2, e3, e4⟩ := h k (by omega)
    simp only [chgTo, chgV, e1, e2, e3, e4]
    rw [chgTo_congr (fun v hv => h v (by omega))]
theorem take_chg {w : Bool} {lo hi lo2 hi2 lf hf : Nat → Int64} {q i : Nat} {r ch : Bool} (hlo : ∀ j, lo2 j = if 4 * q ≤ j ∧ j < 4 * q + i then nlo w (lo j) (lf (j - 4 * q)) else lo j) (hhi : ∀ j, hi2 j = if 4 * q ≤ j ∧ j < 4 * q + i then nhi w (hi j) (hf (j - 4 * q)) else hi j) (hr : r = (decide (lf i < lo2 (4 * q + i)) || decide (hi2 (4 * q + i) < hf i))) (hch : ch = chgTo (fun v => lo (4 * q + v), fun v => hi (4 * q + v)) (lf, hf) i) : chgTo (fun v => lo (4 * q + v), fun v => hi (4 * q + v)) (lf, hf) (i + 1) = (ch || r) := by
  have e1 := hlo (4 * q + i)
  have e2 := hhi (4 * q + i)
  rw [if_neg (by omega)] at e1 e2
  rw [hr, hch, e1, e2]
  rfl
theorem take_new {on on1 : Nat → Bool} {lo hi lo1 hi1 lf hf : Nat → Int64} {S : ST} {q : Nat} {w : Bool} {FF : Option (IV × IV)} {T : IV × IV} (hR : Rep on lo hi S) (hTv : ∀ v, v < 4 → lf v = T.1 v ∧ hf v = T.2 v) (hT : FF = some T) (hSq : S q = none) (hb : on1 = upB on q true ∧ (∀ v, v < 4 → lo1 (4 * q + v) = lf v ∧ hi1 (4 * q + v) = hf v) ∧ ∀ j, (j < 4 * q ∨ 4 * q + 4 ≤ j) → lo1 j = lo j ∧ hi1 j = hi j) : Rep on1 lo1 hi1 (arr S q FF w).2 ∧ true = (arr S q FF w).1 := by
  subst hT
  obtain ⟨rfl, hb⟩ := hb
  simp only [arr, hSq]
  refine ⟨fun p hp => ?_, trivial⟩
  by_cases h : p = q
  · subst h
    refine ⟨fun h => by simp [upS] at h, fun X hX => ?_⟩
    simp only [upS, if_true, Option.some.injEq] at hX
    subst hX
    refine ⟨by simp [upB], fun v hv => ?_⟩
    rw [(hb.1 v hv).1, (hb.1 v hv).2]
    exact hTv v hv
  · have h1 := hR p hp
    simp only [upS, if_neg h, upB]
    refine ⟨h1.1, fun X hX => ⟨(h1.2 X hX).1, fun v hv => ?_⟩⟩
    rw [(hb.2 (4 * p + v) (by omega)).1, (hb.2 (4 * p + v) (by omega)).2]
    exact (h1.2 X hX).2 v hv
theorem take_old {on : Nat → Bool} {lo hi lo2 hi2 lf hf : Nat → Int64} {S : ST} {q : Nat} {w ch : Bool} {FF : Option (IV × IV)} {T Y : IV × IV} (hR : Rep on lo hi S) (hTv : ∀ v, v < 4 → lf v = T.1 v ∧ hf v = T.2 v) (hT : FF = some T) (hY : S q = some Y) (hYv : ∀ v, v < 4 → lo (4 * q + v) = Y.1 v ∧ hi (4 * q + v) = Y.2 v) (hq : q < 24) (hlo : ∀ j, lo2 j = if 4 * q ≤ j ∧ j < 4 * q + 4 then nlo w (lo j) (lf (j - 4 * q)) else lo j) (hhi : ∀ j, hi2 j = if 4 * q ≤ j ∧ j < 4 * q + 4 then nhi w (hi j) (hf (j - 4 * q)) else hi j) (hch : ch = chgTo (fun v => lo (4 * q + v), fun v => hi (4 * q + v)) (lf, hf) 4) : Rep on lo2 hi2 (arr S q FF w).2 ∧ ch = (arr S q FF w).1 := by
  subst hT
  simp only [arr, hY]
  refine ⟨fun p hp => ?_, by rw [hch]; exact chgTo_congr (fun v hv => ⟨(hYv v hv).1, (hYv v hv).2, (hTv v hv).1, (hTv v hv).2⟩)⟩
  by_cases h : p = q
  · subst h
    refine ⟨fun h => by simp [upS] at h, fun X hX => ?_⟩
    simp only [upS, if_true, Option.some.injEq] at hX
    subst hX
    refine ⟨((hR p hp).2 Y hY).1, fun v hv => ?_⟩
    have e1 := hlo (4 * p + v)
    have e2 := hhi (4 * p + v)
    rw [if_pos (by omega), show 4 * p + v - 4 * p = v by omega] at e1 e2
    rw [e1, e2, (hYv v hv).1, (hYv v hv).2, (hTv v hv).1, (hTv v hv).2]
    simp only [wid, if_pos hv]
    exact ⟨trivial, trivial⟩
  · have h1 := hR p hp
    simp only [upS, if_neg h]
    refine ⟨h1.1, fun X hX => ⟨(h1.2 X hX).1, fun v hv => ?_⟩⟩
    have e1 := hlo (4 * p + v)
    have e2 := hhi (4 * p + v)
    rw [if_neg (by omega)] at e1 e2
    rw [e1, e2]
    exact (h1.2 X hX).2 v hv
theorem or_ff {em : Bool} {P : Prop} (h : em = false) (h2 : ¬ P) : ¬ (em = true ∨ P) := by
  rintro (h3 | h3)
  · rw [h] at h3; exact absurd h3 (by decide)
  · exact h2 h3
theorem tk_rep {em : Bool} {le gr r le1 gr1 : Int64} (h1 : le1 = if em = true ∨ r < le then r else le) (h2 : gr1 = if em = true ∨ gr < r then r else gr) : ∀ o, RRep em le gr o → RRep false le1 gr1 (tk r o) := by
  intro o ho
  rcases o with _ | ⟨a, b⟩
  · have he := ho.1 rfl
    refine ⟨fun h => by simp [tk] at h, fun a b h => ?_⟩
    simp only [tk, Option.some.injEq, Prod.mk.injEq] at h
    rw [h1, h2, if_pos (Or.inl he), if_pos (Or.inl he)]
    exact ⟨rfl, h.1, h.2⟩
  · obtain ⟨he, e1, e2⟩ := ho.2 a b rfl
    subst e1; subst e2; subst he
    refine ⟨fun h => by simp [tk] at h, fun a b h => ?_⟩
    simp only [tk, Option.some.injEq, Prod.mk.injEq] at h
    refine ⟨rfl, ?_, ?_⟩
    · rw [h1, ← h.1]; simp
    · rw [h2, ← h.2]; simp
theorem upB_step {P : Nat → Bool} {f f' : Nat → Bool} {i : Nat} {b : Bool} (e : f' = upB f i b) (h : ∀ j, j < i → f j = P j) (hb : b = P i) : ∀ j, j < i + 1 → f' j = P j := by
  intro j hj
  subst e
  by_cases hji : j = i
  · subst hji; simp [upB, hb]
  · simp only [upB, if_neg hji]; exact h j (by omega)
