theorem bm64 (x : Int) (h1 : -9223372036854775808 ≤ x) (h2 : x ≤ 9223372036854775807) : x.bmod (2 ^ 64) = x := by
  have e : ((2 ^ 64 : Nat) : Int) = 18446744073709551616 := by decide
  simp only [Int.bmod, e]
  split <;> omega
theorem l_shr (x : Int64) : (x >>> ((nI 32).toInt64 &&& 63)).toInt = x.toInt / 4294967296 := by
  have hD : (((nI 32).toInt64 &&& 63).toBitVec.smod 64).toNat = 32 := by decide
  have e : (x >>> ((nI 32).toInt64 &&& 63)).toInt = x.toInt >>> 32 := by
    rw [← hD]
    exact BitVec.toInt_sshiftRight ..
  rw [e, Int.shiftRight_eq_div_pow]
  rfl
theorem l_w (x : Int64) : x.toInt32.toInt64.toInt = x.toInt.bmod (2 ^ 32) := by rw [Int32.toInt_toInt64, Int64.toInt_toInt32]
theorem same_iff {l h : Int64} : (l + 2147483648) >>> ((nI 32).toInt64 &&& 63) = (h + 2147483648) >>> ((nI 32).toInt64 &&& 63) ↔ l - l.toInt32.toInt64 = h - h.toInt32.toInt64 := by
  rw [L_eqT, L_eqT, l_shr, l_shr, Int64.toInt_add, Int64.toInt_add, Int64.toInt_sub, Int64.toInt_sub, l_w, l_w, show (2147483648 : Int64).toInt = 2147483648 by decide]
  have a1 := l.toInt_lt
  have a2 := l.le_toInt
  have a3 := h.toInt_lt
  have a4 := h.le_toInt
  generalize l.toInt = L at *
  generalize h.toInt = G at *
  have e : ((2 ^ 64 : Nat) : Int) = 18446744073709551616 := by decide
  have e2 : ((2 ^ 32 : Nat) : Int) = 4294967296 := by decide
  simp only [Int.bmod, e, e2]
  omega
theorem w_rng {l : Int64} (h1 : -2147483648 ≤ l.toInt) (h2 : l.toInt ≤ 2147483647) : l.toInt32.toInt64 = l := by
  rw [L_eqT, l_w]
  have e2 : ((2 ^ 32 : Nat) : Int) = 4294967296 := by decide
  simp only [Int.bmod, e2]
  omega
def setP (tlo thi : Nat → Int64) (a : Nat) (l h : Int64) (tlo1 thi1 : Nat → Int64) : Prop := (l - l.toInt32.toInt64 = h - h.toInt32.toInt64 → tlo1 = vp_updL tlo a l.toInt32.toInt64 ∧ thi1 = vp_updL thi a h.toInt32.toInt64) ∧ (¬ l - l.toInt32.toInt64 = h - h.toInt32.toInt64 → tlo1 = vp_updL tlo a MINI ∧ thi1 = vp_updL thi a MAXI)
theorem l_sub0 (x : Int64) : x - x = 0 := by
  rw [L_eqT, Int64.toInt_sub, L_0]; simp
theorem setP_rng {tlo thi tlo1 thi1 : Nat → Int64} {a : Nat} {l h : Int64} (hs : setP tlo thi a l h tlo1 thi1) (h1 : -2147483648 ≤ l.toInt) (h2 : l.toInt ≤ 2147483647) (h3 : -2147483648 ≤ h.toInt) (h4 : h.toInt ≤ 2147483647) : tlo1 = vp_updL tlo a l ∧ thi1 = vp_updL thi a h := by
  have e1 := w_rng h1 h2
  have e2 := w_rng h3 h4
  have := hs.1 (by rw [e1, e2, l_sub0, l_sub0])
  rw [e1, e2] at this
  exact this
def LRep (le gr : Int64) (o : RS) : Prop := (o = none → le = 9223372036854775807 ∧ gr = -9223372036854775808) ∧ ∀ a b, o = some (a, b) → le = a ∧ gr = b
theorem LRep_init : LRep (4611686018427387904 + (4611686018427387904 - 1)) (-(4611686018427387904 + (4611686018427387904 - 1)) - 1) none := ⟨fun _ => ⟨by decide, by decide⟩, fun a b h => by cases h⟩
theorem l_le_max {r : Int64} (h : ¬ r < 9223372036854775807) : r = 9223372036854775807 := by
  have := r.toInt_lt
  rw [L_eqT, show (9223372036854775807 : Int64).toInt = 9223372036854775807 by decide]
  rw [Int64.lt_iff_toInt_lt, show (9223372036854775807 : Int64).toInt = 9223372036854775807 by decide] at h
  omega
theorem l_ge_min {r : Int64} (h : ¬ -9223372036854775808 < r) : r = -9223372036854775808 := by
  have := r.le_toInt
  rw [L_eqT, show (-9223372036854775808 : Int64).toInt = -9223372036854775808 by decide]
  rw [Int64.lt_iff_toInt_lt, show (-9223372036854775808 : Int64).toInt = -9223372036854775808 by decide] at h
  omega
theorem meet_rep {le gr r le1 gr1 : Int64} (h1 : le1 = if r < le then r else le) (h2 : gr1 = if gr < r then r else gr) : ∀ rs, LRep le gr rs → LRep le1 gr1 (tk r rs) := by
  intro rs hr
  rcases rs with _ | ⟨a, b⟩
  · obtain ⟨e1, e2⟩ := hr.1 rfl
    subst e1; subst e2
    refine ⟨fun h => by simp [tk] at h, fun a b h => ?_⟩
    simp only [tk, Option.some.injEq, Prod.mk.injEq] at h
    obtain ⟨rfl, rfl⟩ := h
    refine ⟨?_, ?_⟩
    · rw [h1]; by_cases h : r < 9223372036854775807
      · rw [if_pos h]
      · rw [if_neg h]; exact (l_le_max h).symm
    · rw [h2]; by_cases h : -9223372036854775808 < r
      · rw [if_pos h]
      · rw [if_neg h]; exact (l_ge_min h).symm
  · obtain ⟨rfl, rfl⟩ := hr.2 a b rfl
    refine ⟨fun h => by simp [tk] at h, fun a b h => ?_⟩
    simp only [tk, Option.some.injEq, Prod.mk.injEq] at h
    exact ⟨h1.trans h.1, h2.trans h.2⟩
theorem c4f {o : Int32} {f t : Int64} (h : o.toInt = 3 ∨ o.toInt = 4 ∨ o.toInt = 5 ∨ (¬ f = 0 ∧ ¬ t = 0)) : o.toInt = 3 ∨ o.toInt = 4 ∨ o.toInt = 5 ∨ ¬ f = 0 := h.imp id (Or.imp id (Or.imp id And.left))
theorem c4t {o : Int32} {f t : Int64} (h : o.toInt = 3 ∨ o.toInt = 4 ∨ o.toInt = 5 ∨ (¬ f = 0 ∧ ¬ t = 0)) : o.toInt = 3 ∨ o.toInt = 4 ∨ o.toInt = 5 ∨ ¬ t = 0 := h.imp id (Or.imp id (Or.imp id And.right))
theorem L_ltne {x : Int64} (h : x < 0) : ¬ x = 0 := fun e => by rw [e, Int64.lt_iff_toInt_lt] at h; omega
theorem L_gtne {x : Int64} (h : 0 < x) : ¬ x = 0 := fun e => by rw [e, Int64.lt_iff_toInt_lt] at h; omega
theorem L_1ne : ¬ (1 : Int64) = 0 := by decide
theorem L_m1ne : ¬ (-1 : Int64) = 0 := by decide
theorem tk_ne (r : Int64) (o : RS) : tk r o ≠ none := by rcases o with _ | ⟨a, b⟩ <;> simp [tk]
theorem tk4_ne (op : Int) (x y f t : Int64) (o : RS) : tk4 op x y f t o ≠ none := tk_ne _ _
theorem calc_n6 {op : Int} (h : ¬ op = 6) (x y f t : Int64) : calcR op x y f t ≠ none := by rw [calcR, if_neg h]; exact tk4_ne _ _ _ _ _ _
theorem calc6_none {x y f t : Int64} (hle : f.toInt ≤ t.toInt) : calcR 6 x y f t = none ↔ f = 0 ∧ t = 0 := by
  rw [calcR, if_pos rfl]
  by_cases h1 : 0 < t
  · rw [if_pos h1]
    exact ⟨fun h => absurd h (tk4_ne _ _ _ _ _ _), fun h => absurd h.2 (L_gtne h1)⟩
  · rw [if_neg h1, calc1]
    by_cases h2 : f < 0
    · rw [if_pos h2]
      exact ⟨fun h => absurd h (tk4_ne _ _ _ _ _ _), fun h => absurd h.1 (L_ltne h2)⟩
    · rw [if_neg h2]
      refine ⟨fun _ => ?_, fun _ => rfl⟩
      rw [Int64.lt_iff_toInt_lt, L_0] at h1 h2
      rw [L_eqT, L_eqT, L_0]
      omega
def calcP (fl fl1 : Nat → Bool) (tlo thi tlo1 thi1 : Nat → Int64) (a : Nat) (q : RS) : Prop := (q = none → fl1 0 = false) ∧ (∀ l h, q = some (l, h) → fl1 0 = true ∧ setP tlo thi a l h tlo1 thi1) ∧ fl1 1 = fl 1
theorem calc_fin0 {fl fl1 : Nat → Bool} {tlo thi tlo1 thi1 : Nat → Int64} {a : Nat} {q : RS} (h1 : (q = none → fl1 0 = false) ∧ (∀ r, q = some r → fl1 0 = true)) (h2 : fl1 1 = fl 1) (hc : fl1 0 = false) : calcP fl fl1 tlo thi tlo1 thi1 a q := ⟨h1.1, fun l h hq => by rw [h1.2 _ hq] at hc; exact absurd hc (by decide), h2⟩
theorem calc_fin1 {fl fl1 : Nat → Bool} {tlo thi tlo1 thi1 : Nat → Int64} {a : Nat} {q : RS} {le gr : Int64} (h1 : (q = none → fl1 0 = false) ∧ (∀ r, q = some r → fl1 0 = true)) (h2 : fl1 1 = fl 1) (hc : fl1 0 = true) (hL : LRep le gr q) (hs : setP tlo thi a le gr tlo1 thi1) : calcP fl fl1 tlo thi tlo1 thi1 a q := ⟨h1.1, fun l h hq => by
  obtain ⟨rfl, rfl⟩ := hL.2 l h hq
  exact ⟨hc, hs⟩, h2⟩
theorem some_of_ne {q : RS} {b : Bool} (h : q ≠ none) (hb : b = true) : (q = none → b = false) ∧ (∀ r, q = some r → b = true) := ⟨fun e => absurd e h, fun _ _ => hb⟩
theorem none_of_eq {q : RS} {b : Bool} (h : q = none) (hb : b = false) : (q = none → b = false) ∧ (∀ r, q = some r → b = true) := ⟨fun _ => hb, fun r e => by rw [h] at e; cases e⟩
theorem mx_t {x y : Int64} (h : x < y) : mx x y = y := by
  rw [mx]; by_cases h2 : y < x
  · exfalso; rw [Int64.lt_iff_toInt_lt] at h h2; omega
  · rw [if_neg h2]
theorem mx_f {x y : Int64} (h : ¬ x < y) : mx x y = x := by
  rw [mx]; by_cases h2 : y < x
  · rw [if_pos h2]
  · rw [if_neg h2, L_eqT]; rw [Int64.lt_iff_toInt_lt] at h h2; omega
theorem mn_t {x y : Int64} (h : y < x) : mn x y = y := by rw [mn, if_pos h]
theorem mn_f {x y : Int64} (h : ¬ y < x) : mn x y = x := by rw [mn, if_neg h]
