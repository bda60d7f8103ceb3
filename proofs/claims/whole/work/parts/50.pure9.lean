/-! states stay in the ints, low not above high -/
def rng (l : Int64) : Prop := -2147483648 ≤ l.toInt ∧ l.toInt ≤ 2147483647
def rngB (l : Int64) : Prop := -4611686018427387904 ≤ l.toInt ∧ l.toInt ≤ 4611686018427387904
theorem rng.B {l : Int64} (h : rng l) : rngB l := by unfold rng at h; unfold rngB; omega
theorem ex_rng {op : Int} {x y : Int64} (hx : rng x) (hy : rng y) : rngB (ex op x y) := by
  unfold rng at hx hy
  unfold ex rngB
  by_cases h1 : op = 3
  · rw [if_pos h1, Int64.toInt_add, bm64 _ (by omega) (by omega)]; omega
  · rw [if_neg h1]
    by_cases h2 : op = 4
    · rw [if_pos h2, Int64.toInt_sub, bm64 _ (by omega) (by omega)]; omega
    · rw [if_neg h2]
      by_cases h3 : op = 5
      · rw [if_pos h3, Int64.toInt_mul]
        have hm : (x.toInt * y.toInt).natAbs ≤ 4611686018427387904 := by
          rw [Int.natAbs_mul]
          exact Nat.mul_le_mul (show x.toInt.natAbs ≤ 2147483648 by omega) (show y.toInt.natAbs ≤ 2147483648 by omega)
        generalize x.toInt * y.toInt = z at hm
        rw [bm64 _ (by omega) (by omega)]; omega
      · rw [if_neg h3, Int64.toInt_div]
        have hm : (x.toInt.tdiv y.toInt).natAbs ≤ 2147483648 := by
          rw [Int.natAbs_tdiv]
          exact Nat.le_trans (Nat.div_le_self _ _) (by omega)
        generalize x.toInt.tdiv y.toInt = z at hm
        rw [bm64 _ (by omega) (by omega)]; omega
def okR (o : RS) : Prop := ∀ a b, o = some (a, b) → rngB a ∧ rngB b ∧ a.toInt ≤ b.toInt
theorem tk_ok {r : Int64} {o : RS} (ho : okR o) (hr : rngB r) : okR (tk r o) := by
  intro a b h
  rcases o with _ | ⟨c, d⟩
  · simp only [tk, Option.some.injEq, Prod.mk.injEq] at h
    obtain ⟨rfl, rfl⟩ := h
    exact ⟨hr, hr, Int.le_refl _⟩
  · obtain ⟨h1, h2, h3⟩ := ho c d rfl
    simp only [tk, Option.some.injEq, Prod.mk.injEq] at h
    obtain ⟨rfl, rfl⟩ := h
    refine ⟨?_, ?_, ?_⟩
    · split <;> assumption
    · split <;> assumption
    · by_cases c1 : r < c <;> by_cases c2 : d < r <;> simp only [c1, c2, if_true, if_false] <;> simp only [Int64.lt_iff_toInt_lt] at c1 c2 <;> omega
theorem tk4_ok {op : Int} {x y f t : Int64} {o : RS} (ho : okR o) (hx : rng x) (hy : rng y) (hf : rng f) (ht : rng t) : okR (tk4 op x y f t o) := tk_ok (tk_ok (tk_ok (tk_ok ho (ex_rng hx hf)) (ex_rng hx ht)) (ex_rng hy hf)) (ex_rng hy ht)
theorem okR_none : okR none := fun a b h => by cases h
theorem calc_ok {op : Int} {x y f t : Int64} (hx : rng x) (hy : rng y) (hf : rng f) (ht : rng t) : okR (calcR op x y f t) := by
  have h1 : rng 1 := by constructor <;> decide
  have hm : rng (-1) := by constructor <;> decide
  have hc : okR (calc1 x y f t) := by
    unfold calc1
    split
    · exact tk4_ok okR_none hx hy hf (by split <;> assumption)
    · exact okR_none
  unfold calcR
  split
  · split
    · exact tk4_ok hc hx hy (by split <;> assumption) ht
    · exact hc
  · exact tk4_ok okR_none hx hy hf ht
theorem okX_put {X : IV × IV} {a : Nat} {l h : Int64} (hX : okX X) (h1 : -2147483648 ≤ l.toInt) (h2 : l.toInt ≤ h.toInt) (h3 : h.toInt ≤ 2147483647) : okX (putI X a l h) := by
  intro v hv
  by_cases e : v = a
  · subst e; simp only [putI, vp_updL, if_true]; exact ⟨h1, h2, h3⟩
  · simp only [putI, vp_updL, if_neg e]; exact hX v hv
theorem okX_all {X : IV × IV} {a : Nat} (hX : okX X) : okX (putI X a MINI MAXI) := okX_put hX (by decide) (by decide) (by decide)
theorem okX_wrap {X : IV × IV} {a : Nat} {l h : Int64} (hX : okX X) (hl : rngB l) (hh : rngB h) (hle : l.toInt ≤ h.toInt) : okX (wrapP X a l h) := by
  unfold wrapP
  by_cases hs : l - l.toInt32.toInt64 = h - h.toInt32.toInt64
  · rw [if_pos hs]
    rw [L_eqT, Int64.toInt_sub, Int64.toInt_sub, l_w, l_w] at hs
    unfold rngB at hl hh
    have e : ((2 ^ 64 : Nat) : Int) = 18446744073709551616 := by decide
    have e2 : ((2 ^ 32 : Nat) : Int) = 4294967296 := by decide
    refine okX_put hX ?_ ?_ ?_ <;> rw [l_w] <;> (try rw [l_w]) <;> (generalize l.toInt = L at *) <;> (generalize h.toInt = G at *) <;> simp only [Int.bmod, e, e2] at hs ⊢ <;> omega
  · rw [if_neg hs]; exact okX_all hX
theorem okX_cmpN {X Y : IV × IV} {a b : Nat} (hX : okX X) (ha : a < 4) (hb : b < 4) (h : unlessX (cmpN X a b) a b = some Y) : okX Y := by
  rw [unlessX] at h
  split at h
  · cases h
  · rename_i hc
    cases h
    simp only [not_or, Int64.lt_iff_toInt_lt] at hc
    intro v hv
    obtain ⟨v1, v2, v3⟩ := hX v hv
    obtain ⟨a1, a2, a3⟩ := hX _ ha
    obtain ⟨b1, b2, b3⟩ := hX _ hb
    have g1 : (cmpN X a b).1 v = if v = a then mx (X.1 a) (X.1 b) else X.1 v := rfl
    have g2 : (cmpN X a b).2 v = if v = b then mn (X.2 b) (X.2 a) else X.2 v := rfl
    refine ⟨?_, ?_, ?_⟩
    · rw [g1]; split
      · rw [mx]; split <;> omega
      · omega
    · by_cases e1 : v = a
      · subst e1; omega
      · by_cases e2 : v = b
        · subst e2; omega
        · rw [g1, g2, if_neg e1, if_neg e2]; omega
    · rw [g2]; split
      · rw [mn]; split <;> omega
      · omega
theorem okX_cmpP {X Y : IV × IV} {a b : Nat} (hX : okX X) (ha : a < 4) (hb : b < 4) (h : unlessX (cmpP X a b) a b = some Y) : okX Y := by
  rw [unlessX] at h
  split at h
  · cases h
  · rename_i hc
    cases h
    simp only [not_or, Int64.lt_iff_toInt_lt] at hc
    intro v hv
    obtain ⟨v1, v2, v3⟩ := hX v hv
    obtain ⟨a1, a2, a3⟩ := hX _ ha
    obtain ⟨b1, b2, b3⟩ := hX _ hb
    have e5 : (X.1 a + 1).toInt = (X.1 a).toInt + 1 := by rw [Int64.toInt_add, L_1, bm64 _ (by omega) (by omega)]
    have e6 : (X.2 b - 1).toInt = (X.2 b).toInt - 1 := by rw [Int64.toInt_sub, L_1, bm64 _ (by omega) (by omega)]
    have g1 : (cmpP X a b).1 v = if v = b then mx (X.1 b) (X.1 a + 1) else X.1 v := rfl
    have g2 : (cmpP X a b).2 v = if v = a then mn (X.2 a) (X.2 b - 1) else X.2 v := rfl
    refine ⟨?_, ?_, ?_⟩
    · rw [g1]; split
      · rw [mx]; split <;> omega
      · omega
    · by_cases e1 : v = a
      · subst e1; omega
      · by_cases e2 : v = b
        · subst e2; omega
        · rw [g1, g2, if_neg e1, if_neg e2]; omega
    · rw [g2]; split
      · rw [mn]; split <;> omega
      · omega
theorem okX_fN {cd : Nat → Int32} {p : Nat} {X Y : IV × IV} (hX : okX X) (hok : okP cd p) (h : fN cd p X = some Y) : okX Y := by
  have o0 := hok.1
  have o1 := hok.2.1
  by_cases h1 : (cd (4 * p)).toInt = 1
  · rw [fN_1 h1] at h; cases h
    have a1 := (cd (4 * p + 2)).toInt_lt
    have a2 := (cd (4 * p + 2)).le_toInt
    exact okX_put hX (by rw [Int32.toInt_toInt64]; omega) (Int.le_refl _) (by rw [Int32.toInt_toInt64]; omega)
  by_cases h2 : (cd (4 * p)).toInt = 2
  · rw [fN_2 h2] at h; cases h
    obtain ⟨b1, b2, b3⟩ := hX _ (okP_b hok (by omega)).2
    exact okX_put hX b1 b2 b3
  by_cases h3 : 3 ≤ (cd (4 * p)).toInt ∧ (cd (4 * p)).toInt ≤ 6
  · rw [fN_3 h3] at h
    obtain ⟨b1, b2, b3⟩ := hX _ (okP_b hok (by omega)).2
    obtain ⟨c1, c2, c3⟩ := hX _ (okP_c hok h3).2
    have hq := calc_ok (op := (cd (4 * p)).toInt) (x := X.1 ((cd (4 * p + 2)).toNatClampNeg)) (y := X.2 ((cd (4 * p + 2)).toNatClampNeg)) (f := X.1 ((cd (4 * p + 3)).toNatClampNeg)) (t := X.2 ((cd (4 * p + 3)).toNatClampNeg)) ⟨b1, by omega⟩ ⟨by omega, b3⟩ ⟨c1, by omega⟩ ⟨by omega, c3⟩
    cases hr : calcR ((cd (4 * p)).toInt) (X.1 ((cd (4 * p + 2)).toNatClampNeg)) (X.2 ((cd (4 * p + 2)).toNatClampNeg)) (X.1 ((cd (4 * p + 3)).toNatClampNeg)) (X.2 ((cd (4 * p + 3)).toNatClampNeg)) with
    | none => rw [hr] at h; cases h
    | some r =>
      rw [hr] at h hq; cases h
      obtain ⟨q1, q2, q3⟩ := hq r.1 r.2 rfl
      exact okX_wrap hX q1 q2 q3
  by_cases h7 : (cd (4 * p)).toInt = 7
  · rw [fN_7 h7] at h
    split at h
    · cases h
    · cases h; exact okX_all hX
  by_cases h8 : (cd (4 * p)).toInt = 8
  · rw [fN_8 h8] at h
    split at h
    · cases h
    · cases h; exact hX
  by_cases h9 : (cd (4 * p)).toInt = 9
  · rw [fN_9 h9] at h
    split at h
    · cases h; exact hX
    · exact okX_cmpN hX (okP_a hok (by omega)).2 (okP_b hok (by omega)).2 h
  by_cases h11 : (cd (4 * p)).toInt = 11
  · rw [fN_11 h11] at h; cases h; exact okX_all hX
  rw [fN_no (by omega)] at h; cases h
theorem okX_fP {cd : Nat → Int32} {p : Nat} {X Y : IV × IV} (hX : okX X) (hok : okP cd p) (h : fP cd p X = some Y) : okX Y := by
  by_cases h9 : (cd (4 * p)).toInt = 9
  · rw [fP_9 h9] at h
    split at h
    · cases h
    · exact okX_cmpP hX (okP_a hok (by omega)).2 (okP_b hok (by omega)).2 h
  · by_cases h10 : (cd (4 * p)).toInt = 10
    · rw [fP_10 h10] at h; cases h; exact hX
    · rw [fP_no h9 h10] at h; cases h
theorem MINI_T : MINI.toInt = -2147483648 := by decide
theorem MAXI_T : MAXI.toInt = 2147483647 := by decide
theorem okX_wid {X T : IV × IV} {w : Bool} (hX : okX X) (hT : okX T) : okX (wid w X T) := by
  intro v hv
  obtain ⟨v1, v2, v3⟩ := hX v hv
  obtain ⟨t1, t2, t3⟩ := hT v hv
  simp only [wid, if_pos hv, nlo, nhi, Int64.lt_iff_toInt_lt]
  by_cases c1 : (T.1 v).toInt < (X.1 v).toInt <;> by_cases c2 : (X.2 v).toInt < (T.2 v).toInt <;> cases w <;> simp only [c1, c2, if_true, if_false, Bool.false_eq_true, MINI_T, MAXI_T] <;> omega
theorem okS_arr {S : ST} {q : Nat} {F : Option (IV × IV)} {w : Bool} (hS : okS S) (hF : ∀ Y, F = some Y → okX Y) : okS (arr S q F w).2 := by
  intro p X h
  by_cases hp : p = q
  · subst hp
    cases F with
    | none => exact hS p X h
    | some T =>
      cases hq : S p with
      | none => simp only [arr, hq, upS, if_true] at h; cases h; exact hF _ rfl
      | some Y => simp only [arr, hq, upS, if_true] at h; cases h; exact okX_wid (hS p Y hq) (hF _ rfl)
  · rw [arr_other hp] at h; exact hS p X h
theorem okS_snd {cd : Nat → Int32} {p : Nat} {X : IV × IV} {w : Bool} {S : ST} (hS : okS S) (hX : okX X) (hok : okP cd p) : okS (snd2 cd p X w S).2 := okS_arr (okS_arr hS (fun Y h => okX_fN hX hok h)) (fun Y h => okX_fP hX hok h)
theorem okS_rnd {cd : Nat → Int32} {S : ST} (hS : okS S) : ∀ {k : Nat}, (∀ p, p < k → okP cd p) → okS (rndTo cd S k).2
  | 0, _ => hS
  | k + 1, hok => by
    have ih := okS_rnd hS (fun p hp => hok p (by omega) : ∀ p, p < k → okP cd p)
    cases hk : (rndTo cd S k).2 k with
    | none => rw [rnd_none hk]; exact ih
    | some X => rw [rnd_some hk]; exact okS_snd ih (ih k X hk) (hok k (by omega))
theorem okS_0 : okS S0 := by
  intro q X h
  by_cases h0 : q = 0
  · subst h0; simp only [S0, if_true] at h; cases h; exact fun v _ => ⟨show -2147483648 ≤ (0 : Int64).toInt by decide, show (0 : Int64).toInt ≤ (0 : Int64).toInt by decide, show (0 : Int64).toInt ≤ 2147483647 by decide⟩
  · simp [S0, h0] at h
theorem okS_K {cd : Nat → Int32} {n : Nat} (hok : ∀ p, p < n → okP cd p) : ∀ k, okS (rndK cd n k)
  | 0 => okS_0
  | k + 1 => okS_rnd (okS_K hok k) hok
