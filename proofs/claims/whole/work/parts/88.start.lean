theorem k_arrOf {s : State} {args : Array Value} {ty : FieldType} (h : (Cond.arrayClass ty).before args s = true) (hp : ∀ C, ty ≠ .object C) : ∃ cA, ArrOfT s cA ty ∧ va_RA s cA ty := by
  obtain ⟨cA, kA, comp, hf, hk, hd⟩ := Cond.arrayClass_spec h
  refine ⟨cA, fun n z => ⟨fun k h => (by cases h), kA, hk, comp, hd⟩, ?_⟩
  cases ty with
  | object C => exact absurd rfl (hp C)
  | _ => exact hf
set_option maxHeartbeats 4000000 in
set_option maxRecDepth 100000 in
/-- THE LAW, from its entry -/
theorem whole_start {p : Program} {e : Env} {s : State} {m : MethodId} {below : List Frame} {meth : Method} {c : Code} (l : Launch) {b L : Nat} {xs : Nat → Int32} (hL : L ≤ 2560) (C0 : lw_At p s m meth c b L xs) : W p l e room_1 s m #[Value.ref b] below meth c s.heap [] 0 0 (lw_Z below #[Value.ref b] s) (entryFrame m ([Value.ref b] : List Value).toArray 4) := by
  obtain ⟨hx, hb, hr, hml, hown, hts, hX, hbl, hlocks, hgv⟩ := id C0
  obtain ⟨c0, iS0, hK0⟩ := u_known (C := RX0) (T := TX0) (N := 3) (n := 3) hts inX0 (hts (.instantiable RX0 3) (by decide +kernel))
  obtain ⟨c1, iS1, hK1⟩ := u_known (C := RX1) (T := TX1) (N := 3) (n := 3) hts inX1 (hts (.instantiable RX1 3) (by decide +kernel))
  obtain ⟨c2, iS2, hK2⟩ := u_known (C := RX2) (T := TX2) (N := 3) (n := 3) hts inX2 (hts (.instantiable RX2 3) (by decide +kernel))
  obtain ⟨c3, iS3, hK3⟩ := u_known (C := RX3) (T := TX3) (N := 8) (n := 8) hts inX3 (hts (.instantiable RX3 8) (by decide +kernel))
  obtain ⟨c4, iS4, hK4⟩ := u_known (C := RX4) (T := TX4) (N := 15) (n := 15) hts inX4 (hts (.instantiable RX4 15) (by decide +kernel))
  obtain ⟨cI, hI⟩ := k_arrOf (hts (.arrayClass .int) (by decide +kernel)) (fun C h => by cases h)
  obtain ⟨cJ, hJ⟩ := k_arrOf (hts (.arrayClass .long) (by decide +kernel)) (fun C h => by cases h)
  obtain ⟨cZ, hZ⟩ := k_arrOf (hts (.arrayClass .boolean) (by decide +kernel)) (fun C h => by cases h)
  obtain ⟨dC, dI, hKc⟩ : ∃ (dC : Nat → ClassId) (dI : Nat → Nat → Nat), ∀ (k : Nat) (q : vw_C), vwCl[k]? = some q → u_Kn s q.1 q.2.1 q.2.2 (dC k) (dI k) := by
    refine ⟨fun k => if k = 0 then c0 else if k = 1 then c1 else if k = 2 then c2 else if k = 3 then c3 else c4, fun k => if k = 0 then iS0 else if k = 1 then iS1 else if k = 2 then iS2 else if k = 3 then iS3 else iS4, ?_⟩
    intro k q hq
    match k, hq with
    | 0, hq => cases hq; exact hK0
    | 1, hq => cases hq; exact hK1
    | 2, hq => cases hq; exact hK2
    | 3, hq => cases hq; exact hK3
    | 4, hq => cases hq; exact hK4
    | k + 5, hq => simp [vwCl] at hq
  have hK : va_K (dC, dI) vwCl (kTy ((dC, dI), cI, cJ, cZ)) s := ⟨hKc, fun k q h => by
    match k, h with
    | 0, h => cases h; exact hI
    | 1, h => cases h; exact hJ
    | 2, h => cases h; exact hZ
    | k + 3, h => simp [kTy] at h⟩
  have hP : va_P (dC, dI) vwCl [] s.heap := fun k q h => by simp at h
  have hD : va_D (fun q : Nat => s.heap.size ≤ q) [] := ⟨fun i j p q h => by simp at h, fun k q h => by simp at h⟩
  have B := law_body (g := (p, l, e, room_1, s, m, #[Value.ref b], below, meth, c, (dC, dI), (fun q : Nat => s.heap.size ≤ q), 4, lw_Z below #[Value.ref b] s)) (E := ((dC, dI), cI, cJ, cZ)) (l := l) (b := b) (L := L) (xs := xs) hL
    ⟨hx, hb, hml, hown, fun w h => hts w (wsL_law_in w h), hK, fun q h => h, rfl, rfl, rfl, rfl⟩
    ⟨hX, hbl, Nat.not_le.mpr hbl⟩
    ⟨hr, hlocks, rfl, rfl, fun q h => h, rfl⟩
    ⟨va_Nw.of rfl (hts (.methodLinkNest RX3 26 yX2_init RX3) (by decide +kernel)), va_Nw.of rfl (hts (.methodLinkNest RX3 36 yX0_init RX3) (by decide +kernel)), va_Nw.of rfl (hts (.methodLinkNest RX3 43 yX1_init RX3) (by decide +kernel))⟩
  have hl := lv_entry ([.ref b]) (n := 4) (Nat.le_of_ble_eq_true rfl)
  rw [lg_entry_eq]
  exact B s.heap [] _ hP hD va_S.rf hl
