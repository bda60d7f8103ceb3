theorem arr_other {S : ST} {q p : Nat} {F : Option (IV × IV)} {w : Bool} (h : ¬ p = q) : (arr S q F w).2 p = S p := by
  unfold arr
  cases F with
  | none => rfl
  | some T => cases hS : S q <;> simp [upS, h]
def okS (S : ST) : Prop := ∀ q X, S q = some X → okX X
/-- what flows to p + 1 flows inside a whole program -/
theorem fN_in {cd : Nat → Int32} {n p : Nat} {X : IV × IV} (hn : n ≤ 24) (hw : wholeP cd n) (hp : p < n) (h : fN cd p X ≠ none) : p + 1 < n := by
  by_cases hq : p + 1 < n
  · exact hq
  · exfalso
    have e : p = n - 1 := by omega
    subst e
    exact h (fN_no hw.2.1)
theorem fP_op {cd : Nat → Int32} {p : Nat} {X : IV × IV} (h : fP cd p X ≠ none) : (cd (4 * p)).toInt = 9 ∨ (cd (4 * p)).toInt = 10 := by
  by_cases h1 : (cd (4 * p)).toInt = 9
  · exact Or.inl h1
  · by_cases h2 : (cd (4 * p)).toInt = 10
    · exact Or.inr h2
    · exact absurd (fP_no h1 h2) h
theorem fP_in {cd : Nat → Int32} {p : Nat} {X : IV × IV} (hok : okP cd p) (h : fP cd p X ≠ none) : (cd (4 * p + 3)).toInt = ((cd (4 * p + 3)).toNatClampNeg : Int) ∧ (cd (4 * p + 3)).toNatClampNeg < 24 := by
  have := okP_q hok (fP_op h)
  exact ⟨this.2.2, this.2.1⟩
def isK (cd : Nat → Int32) (n K : Nat) : Prop := 1 ≤ K ∧ K ≤ 10000 ∧ (∀ j, j + 1 < K → (rndTo cd (rndK cd n j) n).1 = true) ∧ (rndTo cd (rndK cd n (K - 1)) n).1 = false
theorem wb_eq {w : Bool} {x p : Int} : (w && decide (x ≤ p)) = true ↔ w = true ∧ x ≤ p := by simp
theorem rnd_none {cd : Nat → Int32} {S : ST} {k : Nat} (h : (rndTo cd S k).2 k = none) : rndTo cd S (k + 1) = rndTo cd S k := by simp only [rndTo, h]
theorem rnd_some {cd : Nat → Int32} {S : ST} {k : Nat} {X : IV × IV} (h : (rndTo cd S k).2 k = some X) : rndTo cd S (k + 1) = ((rndTo cd S k).1 || (snd2 cd k X true (rndTo cd S k).2).1, (snd2 cd k X true (rndTo cd S k).2).2) := by simp only [rndTo, h]
theorem set_none {cd : Nat → Int32} {S : ST} {k : Nat} (h : S k = none) : setTo cd S (k + 1) = setTo cd S k := by simp only [setTo, h]
theorem set_some {cd : Nat → Int32} {S : ST} {k : Nat} {X : IV × IV} (h : S k = some X) : setTo cd S (k + 1) = (snd2 cd k X false (setTo cd S k)).2 := by simp only [setTo, h]
theorem scan_ch {cd : Nat → Int32} {n K k : Nat} {r : Bool} (hK : isK cd n K) (h1 : 1 ≤ k) (h2 : k ≤ K) (hr : r = (rndTo cd (rndK cd n (k - 1)) n).1) : r = true ↔ k + 1 ≤ K := by
  by_cases h : k + 1 ≤ K
  · rw [hr, hK.2.2.1 (k - 1) (by omega)]; simp [h]
  · rw [hr, show k - 1 = K - 1 by omega, hK.2.2.2]; simp [h]
theorem rnd_ch {cd : Nat → Int32} {S : ST} {k : Nat} {X : IV × IV} {r ch : Bool} (h : (rndTo cd S k).2 k = some X) (hr : r = (snd2 cd k X true (rndTo cd S k).2).1) (hch : ch = (rndTo cd S k).1) : (rndTo cd S (k + 1)).1 = (ch || r) := by
  rw [rnd_some h, hr, hch]
