def nloB (o w : Bool) (l x : Int64) : Int64 := if o then nlo w l x else x
def nhiB (o w : Bool) (h x : Int64) : Int64 := if o then nhi w h x else x
theorem nloB_n {o w : Bool} {f f' : Nat → Int64} {k : Nat} {x : Int64} (ho : o = false) (h : f' = vp_updL f k x) : f' = vp_updL f k (nloB o w (f k) x) := by rw [h, ho]; rfl
theorem nloB_k {o w : Bool} {f : Nat → Int64} {k : Nat} {x : Int64} (ho : o = true) (hc : ¬ x < f k) : f = vp_updL f k (nloB o w (f k) x) := by rw [ho]; simp only [nloB, if_true, nlo, if_neg hc, updL_same]
theorem nloB_t {o w : Bool} {f f' : Nat → Int64} {k : Nat} {x : Int64} (ho : o = true) (hc : x < f k) (hw : w = true) (h : f' = vp_updL f k (-2147483648)) : f' = vp_updL f k (nloB o w (f k) x) := by rw [h, ho, hw]; simp only [nloB, if_true, nlo, if_pos hc, MINI]
theorem nloB_f {o w : Bool} {f f' : Nat → Int64} {k : Nat} {x : Int64} (ho : o = true) (hc : x < f k) (hw : w = false) (h : f' = vp_updL f k x) : f' = vp_updL f k (nloB o w (f k) x) := by rw [h, ho, hw]; simp only [nloB, if_true, nlo, if_pos hc, Bool.false_eq_true, if_false]
theorem nhiB_n {o w : Bool} {f f' : Nat → Int64} {k : Nat} {x : Int64} (ho : o = false) (h : f' = vp_updL f k x) : f' = vp_updL f k (nhiB o w (f k) x) := by rw [h, ho]; rfl
theorem nhiB_k {o w : Bool} {f : Nat → Int64} {k : Nat} {x : Int64} (ho : o = true) (hc : ¬ f k < x) : f = vp_updL f k (nhiB o w (f k) x) := by rw [ho]; simp only [nhiB, if_true, nhi, if_neg hc, updL_same]
theorem nhiB_t {o w : Bool} {f f' : Nat → Int64} {k : Nat} {x : Int64} (ho : o = true) (hc : f k < x) (hw : w = true) (h : f' = vp_updL f k 2147483647) : f' = vp_updL f k (nhiB o w (f k) x) := by rw [h, ho, hw]; simp only [nhiB, if_true, nhi, if_pos hc, MAXI]
theorem nhiB_f {o w : Bool} {f f' : Nat → Int64} {k : Nat} {x : Int64} (ho : o = true) (hc : f k < x) (hw : w = false) (h : f' = vp_updL f k x) : f' = vp_updL f k (nhiB o w (f k) x) := by rw [h, ho, hw]; simp only [nhiB, if_true, nhi, if_pos hc, Bool.false_eq_true, if_false]
/-- the new state of q, whether it was nowhere or not -/
theorem arv_rep {on on1 : Nat → Bool} {lo hi lo2 hi2 tl th : Nat → Int64} {S : ST} {q : Nat} {w : Bool} {T : IV × IV} (hR : Rep on lo hi S) (hq : q < 24) (hT : ∀ v, v < 4 → tl v = T.1 v ∧ th v = T.2 v) (hlo : ∀ j, lo2 j = if 4 * q ≤ j ∧ j < 4 * q + 4 then nloB (on q) w (lo j) (tl (j - 4 * q)) else lo j) (hhi : ∀ j, hi2 j = if 4 * q ≤ j ∧ j < 4 * q + 4 then nhiB (on q) w (hi j) (th (j - 4 * q)) else hi j) (ho : on1 = upB on q true) : Rep on1 lo2 hi2 (arr S q (some T) w).2 := by
  subst ho
  intro p hp
  have g1 : ∀ v, v < 4 → ¬ p = q → lo2 (4 * p + v) = lo (4 * p + v) ∧ hi2 (4 * p + v) = hi (4 * p + v) := fun v hv h => by
    rw [hlo, hhi, if_neg (by omega), if_neg (by omega)]; exact ⟨rfl, rfl⟩
  by_cases h : p = q
  · subst h
    have g2 : ∀ v, v < 4 → lo2 (4 * p + v) = nloB (on p) w (lo (4 * p + v)) (T.1 v) ∧ hi2 (4 * p + v) = nhiB (on p) w (hi (4 * p + v)) (T.2 v) := fun v hv => by
      rw [hlo, hhi, if_pos (by omega), if_pos (by omega), show 4 * p + v - 4 * p = v by omega, (hT v hv).1, (hT v hv).2]; exact ⟨rfl, rfl⟩
    cases hS : S p with
    | none =>
      have e := (hR p hp).1 hS
      simp only [arr, hS, upS, if_true]
      refine ⟨fun h => (by cases h), fun X hX => ?_⟩
      cases hX
      refine ⟨by simp [upB], fun v hv => ?_⟩
      have := g2 v hv
      rw [e] at this
      exact this
    | some Y =>
      obtain ⟨e, hY⟩ := (hR p hp).2 Y hS
      simp only [arr, hS, upS, if_true]
      refine ⟨fun h => (by cases h), fun X hX => ?_⟩
      cases hX
      refine ⟨by simp [upB], fun v hv => ?_⟩
      have := g2 v hv
      rw [e, (hY v hv).1, (hY v hv).2] at this
      simp only [wid, if_pos hv]
      exact this
  · rw [arr_other h]
    have h1 := hR p hp
    refine ⟨fun hN => by simp only [upB, if_neg h]; exact h1.1 hN, fun X hX => ⟨by simp only [upB, if_neg h]; exact (h1.2 X hX).1, fun v hv => ?_⟩⟩
    rw [(g1 v hv h).1, (g1 v hv h).2]
    exact (h1.2 X hX).2 v hv
def chB (o : Bool) (lo hi tl th : Nat → Int64) (k : Nat) : Bool := if o then chgTo (lo, hi) (tl, th) k else true
theorem arv_ch {on : Nat → Bool} {lo hi tl th : Nat → Int64} {S : ST} {q : Nat} {w ch : Bool} {T : IV × IV} (hR : Rep on lo hi S) (hq : q < 24) (hT : ∀ v, v < 4 → tl v = T.1 v ∧ th v = T.2 v) (hc : ch = chB (on q) (fun v => lo (4 * q + v)) (fun v => hi (4 * q + v)) tl th 4) : ch = (arr S q (some T) w).1 := by
  rw [hc]
  cases hS : S q with
  | none => rw [chB, (hR q hq).1 hS]; simp only [arr, hS, Bool.false_eq_true, if_false]
  | some Y =>
    obtain ⟨e, hY⟩ := (hR q hq).2 Y hS
    rw [chB, e]
    simp only [arr, hS, if_true]
    exact chgTo_congr (fun v hv => ⟨(hY v hv).1, (hY v hv).2, (hT v hv).1, (hT v hv).2⟩)
theorem chB_step {o : Bool} {w : Bool} {lo hi lo2 hi2 tl th : Nat → Int64} {q i : Nat} {r ch : Bool} (hlo : ∀ j, lo2 j = if 4 * q ≤ j ∧ j < 4 * q + i then nloB o w (lo j) (tl (j - 4 * q)) else lo j) (hhi : ∀ j, hi2 j = if 4 * q ≤ j ∧ j < 4 * q + i then nhiB o w (hi j) (th (j - 4 * q)) else hi j) (hr : r = (ch || (decide (tl i < lo2 (4 * q + i)) || decide (hi2 (4 * q + i) < th i)))) (ho : o = true) (hch : ch = chB o (fun v => lo (4 * q + v)) (fun v => hi (4 * q + v)) tl th i) : r = chB o (fun v => lo (4 * q + v)) (fun v => hi (4 * q + v)) tl th (i + 1) := by
  have e1 := hlo (4 * q + i)
  have e2 := hhi (4 * q + i)
  rw [if_neg (by omega)] at e1 e2
  rw [hr, hch, e1, e2, ho]
  rfl
theorem chB_off {o : Bool} {lo hi tl th : Nat → Int64} {k j : Nat} {ch : Bool} (ho : o = false) (h : ch = chB o lo hi tl th k) : ch = chB o lo hi tl th j := by rw [h, ho]; rfl
theorem chB_tt {b : Bool} {p q : Prop} [Decidable p] [Decidable q] (h : p ∨ q) : true = (b || (decide p || decide q)) := by
  rcases h with h | h <;> simp [h]
theorem chB_ff {b : Bool} {p q : Prop} [Decidable p] [Decidable q] (h1 : ¬ p) (h2 : ¬ q) : b = (b || (decide p || decide q)) := by simp [h1, h2]
theorem FRep.none_of2 {b : Bool} {lf hf : Nat → Int64} {F : Option (IV × IV)} (hb : b = false) (h : FRep b lf hf F) : F = none := by rw [hb] at h; exact h.none_of
theorem FRep.some_of2 {b : Bool} {lf hf : Nat → Int64} {F : Option (IV × IV)} (hb : b = true) (h : FRep b lf hf F) : ∃ X, F = some X ∧ ∀ v, v < 4 → lf v = X.1 v ∧ hf v = X.2 v := by rw [hb] at h; exact h.some_of
theorem arr_none {S : ST} {q : Nat} {w : Bool} : arr S q none w = (false, S) := rfl
theorem updL_zero {f g f' g' : Nat → Int64} {i : Nat} (h : ∀ j, j < i → f j = 0 ∧ g j = 0) (e1 : f' = vp_updL f i 0) (e2 : g' = vp_updL g i 0) : ∀ j, j < i + 1 → f' j = 0 ∧ g' j = 0 := by
  intro j hj
  subst e1; subst e2
  by_cases hji : j = i
  · subst hji; simp [vp_updL]
  · simp only [vp_updL, if_neg hji]; exact h j (by omega)
theorem updL_copy {f g f' g' F G : Nat → Int64} {i : Nat} (h : ∀ j, j < i → f j = F j ∧ g j = G j) (e1 : f' = vp_updL f i (F i)) (e2 : g' = vp_updL g i (G i)) : ∀ j, j < i + 1 → f' j = F j ∧ g' j = G j := by
  intro j hj
  subst e1; subst e2
  by_cases hji : j = i
  · subst hji; simp [vp_updL]
  · simp only [vp_updL, if_neg hji]; exact h j (by omega)
theorem rep_copy {on on1 : Nat → Bool} {lo hi lo1 hi1 : Nat → Int64} {S : ST} (h1 : ∀ j, j < 24 → on1 j = on j) (h2 : ∀ j, j < 96 → lo1 j = lo j ∧ hi1 j = hi j) (hR : Rep on lo hi S) : Rep on1 lo1 hi1 S := by
  intro q hq
  rw [h1 q hq]
  refine ⟨(hR q hq).1, fun X hX => ⟨((hR q hq).2 X hX).1, fun v hv => ?_⟩⟩
  rw [(h2 (4 * q + v) (by omega)).1, (h2 (4 * q + v) (by omega)).2]
  exact ((hR q hq).2 X hX).2 v hv
theorem almV_nn {cd : Nat → Int32} {sc : Bool} {n : Nat} {on : Nat → Bool} {lo hi : Nat → Int64} {p : Int32} : 0 ≤ (almV cd sc n on lo hi p).toInt := by
  unfold almV
  split
  · split
    · split <;> decide
    · split
      · split <;> decide
      · decide
  · decide
theorem alm_z {cd : Nat → Int32} {sc : Bool} {n : Nat} {on : Nat → Bool} {lo hi : Nat → Int64} {p r : Int32} (h : r = almV cd sc n on lo hi p) (h0 : r.toInt ≤ 0) : (almV cd sc n on lo hi p).toInt = 0 := by
  have := almV_nn (cd := cd) (sc := sc) (n := n) (on := on) (lo := lo) (hi := hi) (p := p)
  rw [h] at h0; omega
theorem alm_nz {cd : Nat → Int32} {sc : Bool} {n : Nat} {on : Nat → Bool} {lo hi : Nat → Int64} {p r : Int32} (h : r = almV cd sc n on lo hi p) (h0 : 0 < r.toInt) : ¬ (almV cd sc n on lo hi p).toInt = 0 := by
  rw [h] at h0; omega
