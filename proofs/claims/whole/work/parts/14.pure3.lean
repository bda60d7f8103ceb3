theorem k_ff {r : Bool} {P : Prop} (h : r = true ↔ P) (hr : r = false) : ¬ P := fun p => by rw [h.mpr p] at hr; exact absurd hr (by decide)
theorem k_nCi {x : Int32} (h : 0 ≤ x.toInt) : (x.toNatClampNeg : Int) = x.toInt := by
  have e : x.toNatClampNeg = x.toInt.toNat := rfl
  rw [e]; omega
theorem k_nC {x : Int32} (h : 0 ≤ x.toInt) : x = nI x.toNatClampNeg := by
  refine k_toN (k_nCi h).symm ?_
  have h1 := k_nCi h
  have h2 := x.toInt_lt
  omega
def upd4 (cd : Nat → Int32) (n : Nat) (o a b c : Int32) : Nat → Int32 := upd (upd (upd (upd cd (4 * n) o) (4 * n + 1) a) (4 * n + 2) b) (4 * n + 3) c
def addP (cd : Nat → Int32) (n : Nat) (sc : Bool) (rt : Nat) (o a b c : Int32) (r : Int32) (cd1 : Nat → Int32) (n1 : Nat) (sc1 : Bool) (rt1 : Nat) : Prop :=
  (¬ okI o a b c ∧ r = -1 ∧ cd1 = cd ∧ n1 = n ∧ sc1 = sc ∧ rt1 = rt) ∨ (okI o a b c ∧ n = 24 ∧ r = -2 ∧ cd1 = cd ∧ n1 = n ∧ sc1 = sc ∧ rt1 = rt) ∨ (okI o a b c ∧ n < 24 ∧ r = nI n ∧ cd1 = upd4 cd n o a b c ∧ n1 = n + 1 ∧ sc1 = false ∧ rt1 = 0)
def codeV (cd : Nat → Int32) (n : Nat) (p f : Int32) : Int32 := if (0 ≤ p.toInt ∧ p.toInt < (n : Int)) ∧ 0 ≤ f.toInt ∧ f.toInt ≤ 3 then cd (4 * p.toNatClampNeg + f.toNatClampNeg) else -9
def rchV (sc : Bool) (n : Nat) (on : Nat → Bool) (p : Int32) : Int32 := if sc = true ∧ 0 ≤ p.toInt ∧ p.toInt < (n : Int) then bI (on p.toNatClampNeg) else -1
def bndV (sc : Bool) (n : Nat) (on : Nat → Bool) (lo : Nat → Int64) (p v : Int32) : Int64 := if rchV sc n on p = 1 ∧ 0 ≤ v.toInt ∧ v.toInt ≤ 3 then lo (4 * p.toNatClampNeg + v.toNatClampNeg) else 4294967296
def almV (cd : Nat → Int32) (sc : Bool) (n : Nat) (on : Nat → Bool) (lo hi : Nat → Int64) (p : Int32) : Int32 :=
  if rchV sc n on p = 1 then
    (if (cd (4 * p.toNatClampNeg)).toInt = 6 then (if ¬ 0 < lo (4 * p.toNatClampNeg + (cd (4 * p.toNatClampNeg + 3)).toNatClampNeg) ∧ ¬ hi (4 * p.toNatClampNeg + (cd (4 * p.toNatClampNeg + 3)).toNatClampNeg) < 0 then 1 else 0)
     else if (cd (4 * p.toNatClampNeg)).toInt = 7 ∨ (cd (4 * p.toNatClampNeg)).toInt = 8 then (if lo (4 * p.toNatClampNeg + (cd (4 * p.toNatClampNeg + 2)).toNatClampNeg) < 0 ∨ 7 < hi (4 * p.toNatClampNeg + (cd (4 * p.toNatClampNeg + 2)).toNatClampNeg) then 2 else 0) else 0)
  else 0
def cntV (cd : Nat → Int32) (sc : Bool) (n : Nat) (on : Nat → Bool) (lo hi : Nat → Int64) : Nat → Nat
  | 0 => 0
  | k + 1 => if (almV cd sc n on lo hi (nI k)).toInt = 0 then cntV cd sc n on lo hi k else cntV cd sc n on lo hi k + 1
theorem cntV_le (cd : Nat → Int32) (sc : Bool) (n : Nat) (on : Nat → Bool) (lo hi : Nat → Int64) : ∀ k, cntV cd sc n on lo hi k ≤ k
  | 0 => Nat.le_refl _
  | k + 1 => by
    have := cntV_le cd sc n on lo hi k
    simp only [cntV]
    split <;> omega
theorem rchV_f1 {sc : Bool} {n : Nat} {on : Nat → Bool} {p : Int32} (h : sc = false) : rchV sc n on p = -1 := by
  rw [rchV, if_neg]; rintro ⟨h1, -⟩; rw [h] at h1; exact absurd h1 (by decide)
theorem rchV_f2 {sc : Bool} {n : Nat} {on : Nat → Bool} {p : Int32} (h : ¬ (0 ≤ p.toInt ∧ p.toInt < (n : Int))) : rchV sc n on p = -1 := by
  rw [rchV, if_neg]; rintro ⟨-, h1⟩; exact h h1
theorem rchV_t {sc : Bool} {n : Nat} {on : Nat → Bool} {p : Int32} (h1 : sc = true) (h2 : 0 ≤ p.toInt ∧ p.toInt < (n : Int)) : rchV sc n on p = bI (on p.toNatClampNeg) := by
  rw [rchV, if_pos ⟨h1, h2⟩]
theorem rchV_1 {sc : Bool} {n : Nat} {on : Nat → Bool} {p r : Int32} (h : r = rchV sc n on p) (h1 : r.toInt = 1) : rchV sc n on p = 1 ∧ sc = true ∧ 0 ≤ p.toInt ∧ p.toInt < (n : Int) ∧ on p.toNatClampNeg = true := by
  have e : rchV sc n on p = 1 := by rw [← h]; exact Int32.toInt_inj.mp (by rw [h1]; decide)
  refine ⟨e, ?_⟩
  by_cases hc : sc = true ∧ 0 ≤ p.toInt ∧ p.toInt < (n : Int)
  · refine ⟨hc.1, hc.2.1, hc.2.2, ?_⟩
    rw [rchV, if_pos hc] at e
    cases ho : on p.toNatClampNeg with
    | true => rfl
    | false => rw [ho] at e; exact absurd e (by decide)
  · rw [rchV, if_neg hc] at e
    exact absurd e (by decide)
theorem rchV_n1 {sc : Bool} {n : Nat} {on : Nat → Bool} {p r : Int32} (h : r = rchV sc n on p) (h1 : ¬ r.toInt = 1) : ¬ rchV sc n on p = 1 := fun e => h1 (by rw [h, e]; decide)
theorem okP_a {cd : Nat → Int32} {p : Nat} (h : okP cd p) (ho : (1 ≤ (cd (4 * p)).toInt ∧ (cd (4 * p)).toInt ≤ 9) ∨ (cd (4 * p)).toInt = 11) : cd (4 * p + 1) = nI ((cd (4 * p + 1)).toNatClampNeg) ∧ (cd (4 * p + 1)).toNatClampNeg < 4 := by
  have h1 := h.2.2.1 ho
  refine ⟨k_nC h1.1, ?_⟩
  have := k_nCi h1.1
  omega
theorem okP_b {cd : Nat → Int32} {p : Nat} (h : okP cd p) (ho : 2 ≤ (cd (4 * p)).toInt ∧ (cd (4 * p)).toInt ≤ 9) : cd (4 * p + 2) = nI ((cd (4 * p + 2)).toNatClampNeg) ∧ (cd (4 * p + 2)).toNatClampNeg < 4 := by
  have h1 := h.2.2.2.1 ho
  refine ⟨k_nC h1.1, ?_⟩
  have := k_nCi h1.1
  omega
theorem okP_c {cd : Nat → Int32} {p : Nat} (h : okP cd p) (ho : 3 ≤ (cd (4 * p)).toInt ∧ (cd (4 * p)).toInt ≤ 6) : cd (4 * p + 3) = nI ((cd (4 * p + 3)).toNatClampNeg) ∧ (cd (4 * p + 3)).toNatClampNeg < 4 := by
  have h1 := h.2.2.2.2.1 ho
  refine ⟨k_nC h1.1, ?_⟩
  have := k_nCi h1.1
  omega
theorem okP_q {cd : Nat → Int32} {p : Nat} (h : okP cd p) (ho : (cd (4 * p)).toInt = 9 ∨ (cd (4 * p)).toInt = 10) : cd (4 * p + 3) = nI ((cd (4 * p + 3)).toNatClampNeg) ∧ (cd (4 * p + 3)).toNatClampNeg < 24 ∧ (cd (4 * p + 3)).toInt = ((cd (4 * p + 3)).toNatClampNeg : Int) := by
  have h1 := h.2.2.2.2.2 ho
  refine ⟨k_nC h1.1, ?_, (k_nCi h1.1).symm⟩
  have := k_nCi h1.1
  omega
theorem whole_fin {cd : Nat → Int32} {n : Nat} (h0 : 0 < n) (hok : ∀ p, p < n → okP cd p) {b r : Bool} (hall : r = true ↔ ∀ p, p < n → ((cd (4 * p)).toInt = 9 ∨ (cd (4 * p)).toInt = 10) → 0 ≤ (cd (4 * p + 3)).toInt ∧ (cd (4 * p + 3)).toInt < (n : Int)) (hb : b = true ↔ ((cd (4 * (n - 1))).toInt = 0 ∨ (cd (4 * (n - 1))).toInt = 10) ∧ r = true) : b = true ↔ wholeP cd n := by
  rw [hb, hall, wholeP]
  constructor
  · rintro ⟨h1, h2⟩
    exact ⟨h0, h1, fun p hp ho => (h2 p hp ho).2⟩
  · rintro ⟨-, h1, h2⟩
    exact ⟨h1, fun p hp ho => ⟨((hok p hp).2.2.2.2.2 ho).1, h2 p hp ho⟩⟩
theorem whole_no {cd : Nat → Int32} {n : Nat} (h : ¬ ((cd (4 * (n - 1))).toInt = 0 ∨ (cd (4 * (n - 1))).toInt = 10)) : false = true ↔ wholeP cd n := ⟨fun h => absurd h (by decide), fun h1 => absurd h1.2.1 h⟩
