/-! rounds end -/
theorem chg_false {X T : IV × IV} : ∀ {k : Nat}, chgTo X T k = false → ∀ v, v < k → ¬ T.1 v < X.1 v ∧ ¬ X.2 v < T.2 v
  | 0, _, v, hv => absurd hv (Nat.not_lt_zero v)
  | k + 1, h, v, hv => by
    simp only [chgTo, chgV, Bool.or_eq_false_iff, decide_eq_false_iff_not] at h
    by_cases e : v = k
    · subst e; exact h.2
    · exact chg_false h.1 v (by omega)
theorem chg_of {X T : IV × IV} : ∀ {k : Nat}, (∀ v, v < k → ¬ T.1 v < X.1 v ∧ ¬ X.2 v < T.2 v) → chgTo X T k = false
  | 0, _ => rfl
  | k + 1, h => by
    simp only [chgTo, chgV, Bool.or_eq_false_iff, decide_eq_false_iff_not]
    exact ⟨chg_of (fun v hv => h v (by omega)), h k (by omega)⟩
theorem chg_true {X T : IV × IV} : ∀ {k : Nat}, chgTo X T k = true → ∃ v, v < k ∧ (T.1 v < X.1 v ∨ X.2 v < T.2 v)
  | 0, h => by cases h
  | k + 1, h => by
    simp only [chgTo, chgV, Bool.or_eq_true, decide_eq_true_eq] at h
    rcases h with h | h
    · obtain ⟨v, hv, hq⟩ := chg_true h; exact ⟨v, by omega, hq⟩
    · exact ⟨k, by omega, h⟩
theorem wid_same {X T : IV × IV} {w : Bool} (h : chgTo X T 4 = false) : wid w X T = X := by
  have := chg_false h
  refine Prod.ext (funext fun v => ?_) (funext fun v => ?_)
  · simp only [wid]; split
    · rw [nlo, if_neg (this v (by assumption)).1]
    · rfl
  · simp only [wid]; split
    · rw [nhi, if_neg (this v (by assumption)).2]
    · rfl
theorem upS_same {S : ST} {q : Nat} {x : Option (IV × IV)} (h : S q = x) : upS S q x = S := by
  funext j; simp only [upS]; split
  · rename_i e; rw [e, h]
  · rfl
theorem arr_same {S : ST} {q : Nat} {F : Option (IV × IV)} {w : Bool} (h : (arr S q F w).1 = false) : (arr S q F w).2 = S := by
  cases F with
  | none => rfl
  | some T =>
    cases hq : S q with
    | none => simp [arr, hq] at h
    | some X =>
      simp only [arr, hq] at h ⊢
      rw [wid_same h]; exact upS_same hq
/-- F has arrived at q -/
def absd (S : ST) (q : Nat) (F : Option (IV × IV)) : Prop := ∀ T, F = some T → ∃ Y, S q = some Y ∧ chgTo Y T 4 = false
theorem absd_arr {S : ST} {q : Nat} {F : Option (IV × IV)} {w : Bool} (h : absd S q F) : arr S q F w = (false, S) := by
  cases F with
  | none => rfl
  | some T =>
    obtain ⟨Y, h1, h2⟩ := h T rfl
    have : (arr S q (some T) w).1 = false := by simp only [arr, h1]; exact h2
    exact Prod.ext this (arr_same this)
theorem nlo_le {w : Bool} {l x : Int64} (hl : -2147483648 ≤ l.toInt) : (nlo w l x).toInt ≤ l.toInt := by
  unfold nlo; by_cases h : x < l
  · rw [if_pos h]; rw [Int64.lt_iff_toInt_lt] at h; cases w
    · simp only [Bool.false_eq_true, if_false]; omega
    · simp only [if_true, MINI_T]; omega
  · rw [if_neg h]; omega
theorem nhi_ge {w : Bool} {l x : Int64} (hl : l.toInt ≤ 2147483647) : l.toInt ≤ (nhi w l x).toInt := by
  unfold nhi; by_cases h : l < x
  · rw [if_pos h]; rw [Int64.lt_iff_toInt_lt] at h; cases w
    · simp only [Bool.false_eq_true, if_false]; omega
    · simp only [if_true, MAXI_T]; omega
  · rw [if_neg h]; omega
theorem nlo_le2 {w : Bool} {l x : Int64} (hx : -2147483648 ≤ x.toInt) : (nlo w l x).toInt ≤ x.toInt := by
  unfold nlo; by_cases h : x < l
  · rw [if_pos h]; cases w
    · simp only [Bool.false_eq_true, if_false]; omega
    · simp only [if_true, MINI_T]; omega
  · rw [if_neg h]; rw [Int64.lt_iff_toInt_lt] at h; omega
theorem nhi_ge2 {w : Bool} {l x : Int64} (hx : x.toInt ≤ 2147483647) : x.toInt ≤ (nhi w l x).toInt := by
  unfold nhi; by_cases h : l < x
  · rw [if_pos h]; cases w
    · simp only [Bool.false_eq_true, if_false]; omega
    · simp only [if_true, MAXI_T]; omega
  · rw [if_neg h]; rw [Int64.lt_iff_toInt_lt] at h; omega
theorem absd_own {S : ST} {q : Nat} {F : Option (IV × IV)} {w : Bool} (hF : ∀ Y, F = some Y → okX Y) : absd (arr S q F w).2 q F := by
  intro T hT
  subst hT
  have hk := hF T rfl
  cases hq : S q with
  | none =>
    refine ⟨T, by simp [arr, hq, upS], chg_of (fun v hv => ⟨fun h => ?_, fun h => ?_⟩)⟩ <;> (rw [Int64.lt_iff_toInt_lt] at h; omega)
  | some X =>
    refine ⟨wid w X T, by simp [arr, hq, upS], chg_of (fun v hv => ?_)⟩
    simp only [wid, if_pos hv, Int64.lt_iff_toInt_lt]
    have h1 := nlo_le2 (w := w) (l := X.1 v) (hk v hv).1
    have h2 := nhi_ge2 (w := w) (l := X.2 v) (hk v hv).2.2
    omega
theorem absd_keep {S : ST} {q q' : Nat} {F F' : Option (IV × IV)} {w : Bool} (hS : okS S) (h : absd S q F) : absd (arr S q' F' w).2 q F := by
  intro T hT
  obtain ⟨Y, h1, h2⟩ := h T hT
  by_cases e : q = q'
  · subst e
    cases F' with
    | none => exact ⟨Y, h1, h2⟩
    | some U =>
      refine ⟨wid w Y U, by simp [arr, h1, upS], chg_of (fun v hv => ?_)⟩
      have h3 := chg_false h2 v hv
      have h4 := hS q Y h1 v hv
      have h5 := nlo_le (w := w) (x := U.1 v) h4.1
      have h6 := nhi_ge (w := w) (x := U.2 v) h4.2.2
      simp only [wid, if_pos hv, Int64.lt_iff_toInt_lt] at h3 ⊢
      omega
  · exact ⟨Y, by rw [arr_other e]; exact h1, h2⟩
/-- did a backward flow change something, up to k's turn -/
noncomputable def bkTo (cd : Nat → Int32) (S : ST) : Nat → Bool
  | 0 => false
  | k + 1 => match (rndTo cd S k).2 k with
    | none => bkTo cd S k
    | some X => bkTo cd S k || ((arr (arr (rndTo cd S k).2 (k + 1) (fN cd k X) false).2 ((cd (4 * k + 3)).toNatClampNeg) (fP cd k X) (true && decide ((cd (4 * k + 3)).toInt ≤ (k : Int)))).1 && decide ((cd (4 * k + 3)).toInt ≤ (k : Int)))
theorem bk_none {cd : Nat → Int32} {S : ST} {k : Nat} (h : (rndTo cd S k).2 k = none) : bkTo cd S (k + 1) = bkTo cd S k := by simp only [bkTo, h]
theorem bk_some {cd : Nat → Int32} {S : ST} {k : Nat} {X : IV × IV} (h : (rndTo cd S k).2 k = some X) : bkTo cd S (k + 1) = (bkTo cd S k || ((arr (arr (rndTo cd S k).2 (k + 1) (fN cd k X) false).2 ((cd (4 * k + 3)).toNatClampNeg) (fP cd k X) (true && decide ((cd (4 * k + 3)).toInt ≤ (k : Int)))).1 && decide ((cd (4 * k + 3)).toInt ≤ (k : Int)))) := by simp only [bkTo, h]
/-- a turn without a backward change leaves all states up to its own -/
theorem turn_keep {cd : Nat → Int32} {S : ST} {k p : Nat} (hok : okP cd k) (hb : bkTo cd S (k + 1) = false) (hp : p ≤ k) : (rndTo cd S (k + 1)).2 p = (rndTo cd S k).2 p := by
  cases hk : (rndTo cd S k).2 k with
  | none => rw [rnd_none hk]
  | some X =>
    rw [bk_some hk, Bool.or_eq_false_iff] at hb
    rw [rnd_some hk]
    simp only [snd2]
    have e1 : (arr (rndTo cd S k).2 (k + 1) (fN cd k X) false).2 p = (rndTo cd S k).2 p := arr_other (by omega)
    cases hF : fP cd k X with
    | none => rw [arr_none]; exact e1
    | some T =>
      have hq := okP_q hok (fP_op (by rw [hF]; simp : fP cd k X ≠ none))
      by_cases hw : (cd (4 * k + 3)).toInt ≤ (k : Int)
      · have h2 := hb.2
        rw [decide_eq_true hw, Bool.and_true, Bool.and_true, hF] at h2
        rw [decide_eq_true hw, Bool.and_true, arr_same h2]
        exact e1
      · rw [arr_other (by omega)]; exact e1
theorem bk_mono {cd : Nat → Int32} {S : ST} {k : Nat} (h : bkTo cd S (k + 1) = false) : bkTo cd S k = false := by
  cases hk : (rndTo cd S k).2 k with
  | none => rw [bk_none hk] at h; exact h
  | some X => rw [bk_some hk, Bool.or_eq_false_iff] at h; exact h.1
theorem bk_le {cd : Nat → Int32} {S : ST} {j : Nat} : ∀ {k : Nat}, j ≤ k → bkTo cd S k = false → bkTo cd S j = false
  | 0, hj, h => by have : j = 0 := by omega
                   subst this; exact h
  | k + 1, hj, h => by
    by_cases e : j = k + 1
    · subst e; exact h
    · exact bk_le (by omega) (bk_mono h)
theorem final_at {cd : Nat → Int32} {S : ST} {p : Nat} : ∀ {k : Nat}, p < k → (∀ j, j < k → okP cd j) → bkTo cd S k = false → (rndTo cd S k).2 p = (rndTo cd S p).2 p
  | 0, hp, _, _ => absurd hp (Nat.not_lt_zero p)
  | k + 1, hp, hok, hb => by
    rw [turn_keep (hok k (by omega)) hb (by omega)]
    by_cases e : p = k
    · subst e; rfl
    · exact final_at (by omega) (fun j hj => hok j (by omega)) (bk_mono hb)
theorem absd_turn {cd : Nat → Int32} {S : ST} {k q : Nat} {F : Option (IV × IV)} (hS : okS (rndTo cd S k).2) (hok : okP cd k) (h : absd (rndTo cd S k).2 q F) : absd (rndTo cd S (k + 1)).2 q F := by
  cases hk : (rndTo cd S k).2 k with
  | none => rw [rnd_none hk]; exact h
  | some X =>
    rw [rnd_some hk]
    exact absd_keep (okS_arr hS (fun Y h => okX_fN (hS k X hk) hok h)) (absd_keep hS h)
theorem absd_later {cd : Nat → Int32} {S : ST} {q j : Nat} {F : Option (IV × IV)} (hS : okS S) : ∀ {k : Nat}, j ≤ k → (∀ p, p < k → okP cd p) → absd (rndTo cd S j).2 q F → absd (rndTo cd S k).2 q F
  | 0, hj, _, h => by have : j = 0 := by omega
                      subst this; exact h
  | k + 1, hj, hok, h => by
    by_cases e : j = k + 1
    · subst e; exact h
    · exact absd_turn (okS_rnd hS (fun p hp => hok p (by omega))) (hok k (by omega)) (absd_later hS (by omega) (fun p hp => hok p (by omega)) h)
/-- both flows of p have arrived when the round is over -/
theorem flows_in {cd : Nat → Int32} {S : ST} {n p : Nat} {X : IV × IV} (hS : okS S) (hp : p < n) (hok : ∀ j, j < n → okP cd j) (hX : (rndTo cd S p).2 p = some X) : absd (rndTo cd S n).2 (p + 1) (fN cd p X) ∧ absd (rndTo cd S n).2 ((cd (4 * p + 3)).toNatClampNeg) (fP cd p X) := by
  have hSp := okS_rnd hS (fun j hj => hok j (by omega) : ∀ j, j < p → okP cd j)
  have hoX := hSp p X hX
  have hop := hok p hp
  have h1 : absd (rndTo cd S (p + 1)).2 (p + 1) (fN cd p X) := by
    rw [rnd_some hX]
    exact absd_keep (okS_arr hSp (fun Y h => okX_fN hoX hop h)) (absd_own (fun Y h => okX_fN hoX hop h))
  have h2 : absd (rndTo cd S (p + 1)).2 ((cd (4 * p + 3)).toNatClampNeg) (fP cd p X) := by
    rw [rnd_some hX]
    exact absd_own (fun Y h => okX_fP hoX hop h)
  exact ⟨absd_later hS (by omega) hok h1, absd_later hS (by omega) hok h2⟩
theorem quiet {cd : Nat → Int32} {S : ST} {n : Nat} (hS : okS S) (hok : ∀ j, j < n → okP cd j) (hb : bkTo cd S n = false) : ∀ k, k ≤ n → rndTo cd (rndTo cd S n).2 k = (false, (rndTo cd S n).2)
  | 0, _ => rfl
  | k + 1, hk => by
    have ih := quiet hS hok hb k (by omega)
    cases hX : (rndTo cd S n).2 k with
    | none => rw [rnd_none (by rw [ih]; exact hX), ih]
    | some X =>
      have e : (rndTo cd S k).2 k = some X := by rw [← final_at (show k < n by omega) hok hb]; exact hX
      obtain ⟨h1, h2⟩ := flows_in hS (show k < n by omega) hok e
      rw [rnd_some (X := X) (by rw [ih]; exact hX), ih]
      simp only [snd2, absd_arr h1, absd_arr h2, Bool.or_self]
/-- how far a state may still go -/
noncomputable def phiV (X : IV × IV) : Nat → Nat
  | 0 => 0
  | k + 1 => phiV X k + (if X.1 k = MINI then 0 else 1) + (if X.2 k = MAXI then 0 else 1)
noncomputable def phi (x : Option (IV × IV)) : Nat := match x with
  | none => 9
  | some X => phiV X 4
noncomputable def phiS (S : ST) : Nat → Nat
  | 0 => 0
  | k + 1 => phiS S k + phi (S k)
theorem phiV_le (X : IV × IV) : ∀ k, phiV X k ≤ 2 * k
  | 0 => Nat.le_refl _
  | k + 1 => by
    have := phiV_le X k
    simp only [phiV]
    split <;> split <;> omega
theorem phiS_le (S : ST) : ∀ k, phiS S k ≤ 9 * k
  | 0 => Nat.le_refl _
  | k + 1 => by
    have := phiS_le S k
    have h2 : phi (S k) ≤ 9 := by
      unfold phi; split
      · omega
      · rename_i X h; have := phiV_le X 4; omega
    simp only [phiS]; omega
theorem phiS_up {S : ST} {q : Nat} {x : Option (IV × IV)} (h : phi x ≤ phi (S q)) : ∀ k, phiS (upS S q x) k ≤ phiS S k
  | 0 => Nat.le_refl _
  | k + 1 => by
    have ih := phiS_up h k
    simp only [phiS, upS]
    by_cases e : k = q
    · subst e; simp only [if_true]; omega
    · simp only [if_neg e]; omega
theorem phiS_lt {S : ST} {q : Nat} {x : Option (IV × IV)} (h : phi x < phi (S q)) : ∀ k, q < k → phiS (upS S q x) k < phiS S k
  | 0, hq => absurd hq (Nat.not_lt_zero q)
  | k + 1, hq => by
    have ih := phiS_up (Nat.le_of_lt h) k
    simp only [phiS, upS]
    by_cases e : k = q
    · subst e; simp only [if_true]; omega
    · have := phiS_lt h k (by omega)
      simp only [if_neg e]; omega
theorem one_le {w : Bool} {l x : Int64} (hx : -2147483648 ≤ x.toInt) : (if nlo w l x = MINI then 0 else 1) ≤ (if l = MINI then 0 else 1) := by
  by_cases h : l = MINI
  · have e : ¬ x < l := by rw [h, Int64.lt_iff_toInt_lt, MINI_T]; omega
    rw [nlo, if_neg e]; exact Nat.le_refl _
  · rw [if_neg h]; split <;> omega
theorem one_lt {l x : Int64} (hx : -2147483648 ≤ x.toInt) (h : x < l) : (if nlo true l x = MINI then 0 else 1) < (if l = MINI then 0 else 1) := by
  have e : ¬ l = MINI := fun e => by rw [e, Int64.lt_iff_toInt_lt, MINI_T] at h; omega
  rw [nlo, if_pos h, if_neg e]; simp
theorem two_le {w : Bool} {l x : Int64} (hx : x.toInt ≤ 2147483647) : (if nhi w l x = MAXI then 0 else 1) ≤ (if l = MAXI then 0 else 1) := by
  by_cases h : l = MAXI
  · have e : ¬ l < x := by rw [h, Int64.lt_iff_toInt_lt, MAXI_T]; omega
    rw [nhi, if_neg e]; exact Nat.le_refl _
  · rw [if_neg h]; split <;> omega
theorem two_lt {l x : Int64} (hx : x.toInt ≤ 2147483647) (h : l < x) : (if nhi true l x = MAXI then 0 else 1) < (if l = MAXI then 0 else 1) := by
  have e : ¬ l = MAXI := fun e => by rw [e, Int64.lt_iff_toInt_lt, MAXI_T] at h; omega
  rw [nhi, if_pos h, if_neg e]; simp
theorem phiV_wid {X T : IV × IV} {w : Bool} (hT : okX T) : ∀ k, k ≤ 4 → phiV (wid w X T) k ≤ phiV X k
  | 0, _ => Nat.le_refl _
  | k + 1, hk => by
    have ih := phiV_wid (w := w) (X := X) hT k (by omega)
    have h1 := one_le (w := w) (l := X.1 k) (hT k (by omega)).1
    have h2 := two_le (w := w) (l := X.2 k) (hT k (by omega)).2.2
    have e1 : (wid w X T).1 k = nlo w (X.1 k) (T.1 k) := by simp only [wid, if_pos (show k < 4 by omega)]
    have e2 : (wid w X T).2 k = nhi w (X.2 k) (T.2 k) := by simp only [wid, if_pos (show k < 4 by omega)]
    simp only [phiV, e1, e2]; omega
theorem phiV_lt {X T : IV × IV} (hT : okX T) {v : Nat} (hc : T.1 v < X.1 v ∨ X.2 v < T.2 v) : ∀ k, v < k → k ≤ 4 → phiV (wid true X T) k < phiV X k
  | 0, hv, _ => absurd hv (Nat.not_lt_zero v)
  | k + 1, hv, hk => by
    have h1 := one_le (w := true) (l := X.1 k) (hT k (by omega)).1
    have h2 := two_le (w := true) (l := X.2 k) (hT k (by omega)).2.2
    have e1 : (wid true X T).1 k = nlo true (X.1 k) (T.1 k) := by simp only [wid, if_pos (show k < 4 by omega)]
    have e2 : (wid true X T).2 k = nhi true (X.2 k) (T.2 k) := by simp only [wid, if_pos (show k < 4 by omega)]
    simp only [phiV, e1, e2]
    by_cases e : v = k
    · subst e
      have ih := phiV_wid (w := true) (X := X) hT v (by omega)
      rcases hc with hc | hc
      · have := one_lt (hT v (by omega)).1 hc; omega
      · have := two_lt (hT v (by omega)).2.2 hc; omega
    · have ih := phiV_lt hT hc k (by omega) (by omega); omega
theorem phi_arr {S : ST} {q : Nat} {F : Option (IV × IV)} {w : Bool} (hF : ∀ Y, F = some Y → okX Y) (k : Nat) : phiS (arr S q F w).2 k ≤ phiS S k := by
  cases F with
  | none => exact Nat.le_refl _
  | some T =>
    cases hq : S q with
    | none =>
      simp only [arr, hq]
      refine phiS_up ?_ k
      rw [hq]; have := phiV_le T 4; simp only [phi]; omega
    | some X =>
      simp only [arr, hq]
      refine phiS_up ?_ k
      rw [hq]; exact phiV_wid (hF T rfl) 4 (by omega)
theorem phi_arr_lt {S : ST} {q : Nat} {F : Option (IV × IV)} (hF : ∀ Y, F = some Y → okX Y) {k : Nat} (hk : q < k) (hc : (arr S q F true).1 = true) : phiS (arr S q F true).2 k < phiS S k := by
  cases F with
  | none => cases hc
  | some T =>
    cases hq : S q with
    | none =>
      simp only [arr, hq]
      refine phiS_lt ?_ k hk
      rw [hq]; have := phiV_le T 4; simp only [phi]; omega
    | some X =>
      simp only [arr, hq] at hc ⊢
      refine phiS_lt ?_ k hk
      obtain ⟨v, hv, h⟩ := chg_true hc
      rw [hq]; exact phiV_lt (hF T rfl) h 4 hv (by omega)
theorem phi_rnd {cd : Nat → Int32} {S : ST} (hS : okS S) : ∀ {k : Nat}, k ≤ 24 → (∀ p, p < k → okP cd p) → phiS (rndTo cd S k).2 24 + (if bkTo cd S k = true then 1 else 0) ≤ phiS S 24
  | 0, _, _ => by simp [rndTo, bkTo]
  | k + 1, h24, hok => by
    have ih := phi_rnd hS (show k ≤ 24 by omega) (fun p hp => hok p (by omega) : ∀ p, p < k → okP cd p)
    have hSk := okS_rnd hS (fun p hp => hok p (by omega) : ∀ p, p < k → okP cd p)
    have hop := hok k (by omega)
    cases hk : (rndTo cd S k).2 k with
    | none => rw [rnd_none hk, bk_none hk]; exact ih
    | some X =>
      have hX := hSk k X hk
      rw [rnd_some hk, bk_some hk]
      simp only [snd2]
      have g1 := phi_arr (S := (rndTo cd S k).2) (q := k + 1) (w := false) (fun Y h => okX_fN hX hop h) 24
      have g2 := phi_arr (S := (arr (rndTo cd S k).2 (k + 1) (fN cd k X) false).2) (q := (cd (4 * k + 3)).toNatClampNeg) (w := (true && decide ((cd (4 * k + 3)).toInt ≤ (k : Int)))) (fun Y h => okX_fP hX hop h) 24
      by_cases hw : (cd (4 * k + 3)).toInt ≤ (k : Int)
      · rw [decide_eq_true hw, Bool.and_true] at g2 ⊢
        by_cases hc : (arr (arr (rndTo cd S k).2 (k + 1) (fN cd k X) false).2 ((cd (4 * k + 3)).toNatClampNeg) (fP cd k X) true).1 = true
        · have hne : fP cd k X ≠ none := fun e => by rw [e] at hc; cases hc
          have hq := okP_q hop (fP_op hne)
          have g3 := phi_arr_lt (S := (arr (rndTo cd S k).2 (k + 1) (fN cd k X) false).2) (q := (cd (4 * k + 3)).toNatClampNeg) (fun Y h => okX_fP hX hop h) (k := 24) (by omega) hc
          split <;> split at ih <;> omega
        · rw [Bool.not_eq_true] at hc
          rw [hc, Bool.false_and, Bool.or_false]; omega
      · rw [decide_eq_false hw, Bool.and_false] at g2 ⊢
        rw [Bool.and_false, Bool.or_false]; omega
theorem rounds_end {cd : Nat → Int32} {n : Nat} (hn : n ≤ 24) (hok : ∀ p, p < n → okP cd p) : ∃ K, isK cd n K := by
  have key : ∃ j, (rndTo cd (rndK cd n j) n).1 = false ∧ j ≤ 300 := by
    refine Classical.byContradiction fun hno => ?_
    have hall : ∀ j, j ≤ 300 → (rndTo cd (rndK cd n j) n).1 = true := fun j hj => by
      cases h : (rndTo cd (rndK cd n j) n).1 with
      | true => rfl
      | false => exact absurd ⟨j, h, hj⟩ hno
    have hbk : ∀ j, j + 1 ≤ 300 → bkTo cd (rndK cd n j) n = true := fun j hj => by
      cases h : bkTo cd (rndK cd n j) n with
      | true => rfl
      | false =>
        have q := quiet (okS_K hok j) hok h n (Nat.le_refl _)
        have h2 := hall (j + 1) hj
        rw [show rndK cd n (j + 1) = (rndTo cd (rndK cd n j) n).2 from rfl, q] at h2
        cases h2
    have hphi : ∀ j, j ≤ 300 → phiS (rndK cd n j) 24 + j ≤ 216 := fun j => by
      induction j with
      | zero => intro _; have := phiS_le (rndK cd n 0) 24; omega
      | succ j ih =>
        intro hj
        have h1 := ih (by omega)
        have h2 := phi_rnd (okS_K hok j) hn hok
        rw [hbk j hj, if_pos rfl] at h2
        rw [show rndK cd n (j + 1) = (rndTo cd (rndK cd n j) n).2 from rfl]
        omega
    have := hphi 300 (Nat.le_refl _)
    omega
  obtain ⟨j0, h0, hj0⟩ := key
  obtain ⟨j, hj, hmin⟩ := pk_least (fun j => (rndTo cd (rndK cd n j) n).1 = false) ⟨j0, h0⟩
  have hle : j ≤ j0 := by
    rcases Nat.lt_or_ge j0 j with h | h
    · exact absurd h0 (hmin j0 h)
    · exact h
  refine ⟨j + 1, by omega, by omega, fun i hi => ?_, by simpa using hj⟩
  cases h : (rndTo cd (rndK cd n i) n).1 with
  | true => rfl
  | false => exact absurd h (hmin i (by omega))
