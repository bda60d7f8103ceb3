/-! the class's answers and the reference's -/
theorem m1_ne_nI {k : Nat} (h : k < 2 ^ 31) : ¬ (-1 : Int32) = nI k := fun e => by
  have := congrArg Int32.toInt e
  rw [nI_toInt h, show (-1 : Int32).toInt = -1 by decide] at this
  omega
theorem addP_det {cd : Nat → Int32} {n : Nat} {sc : Bool} {rt : Nat} {o a b c r r' : Int32} {cd1 cd2 : Nat → Int32} {n1 n2 : Nat} {sc1 sc2 : Bool} {rt1 rt2 : Nat} (h1 : addP cd n sc rt o a b c r cd1 n1 sc1 rt1) (h2 : addP cd n sc rt o a b c r' cd2 n2 sc2 rt2) : r = r' ∧ cd1 = cd2 ∧ n1 = n2 ∧ sc1 = sc2 ∧ rt1 = rt2 := by
  rcases h1 with ⟨k, h1, h2', h3, h4, h5⟩ | ⟨k, k2, h1, h2', h3, h4, h5⟩ | ⟨k, k2, h1, h2', h3, h4, h5⟩ <;> rcases h2 with ⟨j, g1, g2, g3, g4, g5⟩ | ⟨j, j2, g1, g2, g3, g4, g5⟩ | ⟨j, j2, g1, g2, g3, g4, g5⟩
  · exact ⟨h1.trans g1.symm, h2'.trans g2.symm, h3.trans g3.symm, h4.trans g4.symm, h5.trans g5.symm⟩
  · exact absurd j k
  · exact absurd j k
  · exact absurd k j
  · exact ⟨h1.trans g1.symm, h2'.trans g2.symm, h3.trans g3.symm, h4.trans g4.symm, h5.trans g5.symm⟩
  · omega
  · exact absurd k j
  · omega
  · exact ⟨h1.trans g1.symm, h2'.trans g2.symm, h3.trans g3.symm, h4.trans g4.symm, h5.trans g5.symm⟩
theorem add_ok {cd : Nat → Int32} {n : Nat} {sc : Bool} {rt : Nat} {o a b c r : Int32} {cd1 : Nat → Int32} {n1 : Nat} {sc1 : Bool} {rt1 : Nat} (h : addP cd n sc rt o a b c r cd1 n1 sc1 rt1) (hn : n ≤ 24) (hok : ∀ p, p < n → okP cd p) : n1 ≤ 24 ∧ ∀ p, p < n1 → okP cd1 p := by
  rcases h with ⟨-, -, rfl, rfl, -, -⟩ | ⟨-, -, -, rfl, rfl, -, -⟩ | ⟨k, k2, -, rfl, rfl, -, -⟩
  · exact ⟨hn, hok⟩
  · exact ⟨hn, hok⟩
  · refine ⟨by omega, fun p hp => ?_⟩
    by_cases e : p = n
    · subst e
      simp only [okP, upd4, upd]
      simp only [if_true, if_neg (show ¬ 4 * p = 4 * p + 1 by omega), if_neg (show ¬ 4 * p = 4 * p + 2 by omega), if_neg (show ¬ 4 * p = 4 * p + 3 by omega), if_neg (show ¬ 4 * p + 1 = 4 * p + 2 by omega), if_neg (show ¬ 4 * p + 1 = 4 * p + 3 by omega), if_neg (show ¬ 4 * p + 2 = 4 * p + 3 by omega)]
      exact k
    · have := hok p (by omega)
      simp only [okP, upd4, upd] at this ⊢
      have q : ∀ i j, i < 4 → j < 4 → ¬ 4 * p + i = 4 * n + j := fun i j hi hj => by omega
      simp only [if_neg (show ¬ 4 * p = 4 * n by omega), if_neg (show ¬ 4 * p = 4 * n + 1 by omega), if_neg (show ¬ 4 * p = 4 * n + 2 by omega), if_neg (show ¬ 4 * p = 4 * n + 3 by omega), if_neg (show ¬ 4 * p + 1 = 4 * n by omega), if_neg (q 1 1 (by omega) (by omega)), if_neg (q 1 2 (by omega) (by omega)), if_neg (q 1 3 (by omega) (by omega)), if_neg (show ¬ 4 * p + 2 = 4 * n by omega), if_neg (q 2 1 (by omega) (by omega)), if_neg (q 2 2 (by omega) (by omega)), if_neg (q 2 3 (by omega) (by omega)), if_neg (show ¬ 4 * p + 3 = 4 * n by omega), if_neg (q 3 1 (by omega) (by omega)), if_neg (q 3 2 (by omega) (by omega)), if_neg (q 3 3 (by omega) (by omega))]
      exact this
theorem add_sc {cd : Nat → Int32} {n : Nat} {sc : Bool} {rt : Nat} {o a b c r : Int32} {cd1 : Nat → Int32} {n1 : Nat} {sc1 : Bool} {rt1 : Nat} (h : addP cd n sc rt o a b c r cd1 n1 sc1 rt1) (h1 : sc1 = true) : sc = true := by
  rcases h with ⟨-, -, -, -, e, -⟩ | ⟨-, -, -, -, -, e, -⟩ | ⟨-, -, -, -, -, e, -⟩
  · rw [← e]; exact h1
  · rw [← e]; exact h1
  · rw [e] at h1; cases h1
def twoR (sc : Bool) (on on' : Nat → Bool) (lo hi lo' hi' : Nat → Int64) : Prop := sc = true → ∃ S, Rep on lo hi S ∧ Rep on' lo' hi' S
theorem two_on {sc : Bool} {on on' : Nat → Bool} {lo hi lo' hi' : Nat → Int64} (h : twoR sc on on' lo hi lo' hi') (hs : sc = true) {q : Nat} (hq : q < 24) : on q = on' q := by
  obtain ⟨S, h1, h2⟩ := h hs
  cases hS : S q with
  | none => rw [(h1 q hq).1 hS, (h2 q hq).1 hS]
  | some X => rw [((h1 q hq).2 X hS).1, ((h2 q hq).2 X hS).1]
theorem two_lo {sc : Bool} {on on' : Nat → Bool} {lo hi lo' hi' : Nat → Int64} (h : twoR sc on on' lo hi lo' hi') (hs : sc = true) {q v : Nat} (hq : q < 24) (ho : on q = true) (hv : v < 4) : lo (4 * q + v) = lo' (4 * q + v) ∧ hi (4 * q + v) = hi' (4 * q + v) := by
  obtain ⟨S, h1, h2⟩ := h hs
  obtain ⟨X, hX, h3⟩ := h1.up hq ho
  have h4 := ((h2 q hq).2 X hX).2 v hv
  rw [(h3 v hv).1, (h3 v hv).2, h4.1, h4.2]
  exact ⟨rfl, rfl⟩
theorem rchV_eq {sc : Bool} {n : Nat} {on on' : Nat → Bool} {lo hi lo' hi' : Nat → Int64} (hn : n ≤ 24) (h : twoR sc on on' lo hi lo' hi') (p : Int32) : rchV sc n on p = rchV sc n on' p := by
  unfold rchV
  by_cases hc : sc = true ∧ 0 ≤ p.toInt ∧ p.toInt < (n : Int)
  · rw [if_pos hc, if_pos hc, two_on h hc.1 (by have := k_nCi hc.2.1; omega)]
  · rw [if_neg hc, if_neg hc]
theorem bndV_eq {sc : Bool} {n : Nat} {on on' : Nat → Bool} {lo hi lo' hi' : Nat → Int64} (hn : n ≤ 24) (h : twoR sc on on' lo hi lo' hi') (p v : Int32) : bndV sc n on lo p v = bndV sc n on' lo' p v ∧ bndV sc n on hi p v = bndV sc n on' hi' p v := by
  have e := rchV_eq hn h p
  unfold bndV
  rw [← e]
  by_cases hc : rchV sc n on p = 1 ∧ 0 ≤ v.toInt ∧ v.toInt ≤ 3
  · rw [if_pos hc, if_pos hc, if_pos hc, if_pos hc]
    obtain ⟨-, h1, h2, h3, h4⟩ := rchV_1 rfl (by rw [hc.1]; decide)
    have a1 := k_nCi h2
    have a2 := k_nCi hc.2.1
    exact two_lo h h1 (by omega) h4 (by omega)
  · rw [if_neg hc, if_neg hc, if_neg hc, if_neg hc]; exact ⟨rfl, rfl⟩
theorem almV_eq {cd : Nat → Int32} {sc : Bool} {n : Nat} {on on' : Nat → Bool} {lo hi lo' hi' : Nat → Int64} (hn : n ≤ 24) (hok : ∀ p, p < n → okP cd p) (h : twoR sc on on' lo hi lo' hi') (p : Int32) : almV cd sc n on lo hi p = almV cd sc n on' lo' hi' p := by
  have e := rchV_eq hn h p
  unfold almV
  rw [← e]
  by_cases hc : rchV sc n on p = 1
  · rw [if_pos hc, if_pos hc]
    obtain ⟨-, h1, h2, h3, h4⟩ := rchV_1 rfl (by rw [hc]; decide)
    have a1 := k_nCi h2
    have hp := hok p.toNatClampNeg (by omega)
    by_cases o6 : (cd (4 * p.toNatClampNeg)).toInt = 6
    · have := two_lo h h1 (show p.toNatClampNeg < 24 by omega) h4 (okP_c hp (by omega)).2
      rw [if_pos o6, if_pos o6, this.1, this.2]
    · rw [if_neg o6, if_neg o6]
      by_cases o7 : (cd (4 * p.toNatClampNeg)).toInt = 7 ∨ (cd (4 * p.toNatClampNeg)).toInt = 8
      · have := two_lo h h1 (show p.toNatClampNeg < 24 by omega) h4 (okP_b hp (by omega)).2
        rw [if_pos o7, if_pos o7, this.1, this.2]
      · rw [if_neg o7, if_neg o7]
  · rw [if_neg hc, if_neg hc]
theorem cntV_eq {cd : Nat → Int32} {sc : Bool} {n : Nat} {on on' : Nat → Bool} {lo hi lo' hi' : Nat → Int64} (hn : n ≤ 24) (hok : ∀ p, p < n → okP cd p) (h : twoR sc on on' lo hi lo' hi') : ∀ k, cntV cd sc n on lo hi k = cntV cd sc n on' lo' hi' k
  | 0 => rfl
  | k + 1 => by simp only [cntV, almV_eq hn hok h (nI k), cntV_eq hn hok h k]
def scanP (cd : Nat → Int32) (n K : Nat) (r : Int32) (sc : Bool) (rt : Nat) (on : Nat → Bool) (lo hi : Nat → Int64) : Prop := (¬ wholeP cd n ∧ r = -1 ∧ sc = false ∧ rt = 0) ∨ (wholeP cd n ∧ sc = true ∧ rt = K ∧ Rep on lo hi (setTo cd (rndK cd n K) n) ∧ r = nI (cntV cd true n on lo hi n))
theorem scan_det {cd : Nat → Int32} {n K : Nat} {r r' : Int32} {sc sc' : Bool} {rt rt' : Nat} {on on' : Nat → Bool} {lo hi lo' hi' : Nat → Int64} (hn : n ≤ 24) (hok : ∀ p, p < n → okP cd p) (h1 : scanP cd n K r sc rt on lo hi) (h2 : scanP cd n K r' sc' rt' on' lo' hi') : r = r' ∧ sc = sc' ∧ rt = rt' ∧ twoR sc on on' lo hi lo' hi' := by
  rcases h1 with ⟨w1, a1, a2, a3⟩ | ⟨w1, a2, a3, a4, a1⟩ <;> rcases h2 with ⟨w2, b1, b2, b3⟩ | ⟨w2, b2, b3, b4, b1⟩
  · exact ⟨a1.trans b1.symm, a2.trans b2.symm, a3.trans b3.symm, fun h => by rw [a2] at h; cases h⟩
  · exact absurd w2 w1
  · exact absurd w1 w2
  · have ht : twoR true on on' lo hi lo' hi' := fun _ => ⟨_, a4, b4⟩
    refine ⟨by rw [a1, b1, cntV_eq hn hok ht n], a2.trans b2.symm, a3.trans b3.symm, by rw [a2]; exact ht⟩
section KLAW
variable {g : kG} {E : kE} {l : Launch} {R : Room} {cc : ByteArray} {own : String} {Ts : List Cond} {nL : Nat} {ws : va_W} {lv : List (Nat × Value)} {ce sl : Nat} {st : List Value}
def kX (g : kG) (b L : Nat) (xs : Nat → Int32) : Prop := match g with
  | (_, _, _, _, s, _, _, _, _, _, _, A, _, _) => va_X b L xs s s.heap ∧ b < s.heap.size ∧ ¬ A b
theorem k_sld (F : kF g E l R cc own Ts nL) {b L : Nat} {xs : Nat → Int32} (X : kX g b L xs) {pc i : Nat} (hd : decode cc pc = .ok (.iaload, 1)) (hi : i < L) (hL : L < 2 ^ 31) (kk : kK g ws lv ce sl (pc + 1) (.int (xs i) :: st)) : kK g ws lv ce sl pc (.int (nI i) :: .ref b :: st) := by
  obtain ⟨p, l', e, R', s, m, args, below, meth, c, D, A, nL', Q⟩ := g
  obtain ⟨hx, hb, hml, hown, hts, hK, hA, rfl, rfl, rfl, rfl⟩ := F
  obtain ⟨hX, hbl, hbA⟩ := X
  intro H locs ls hP hD hS hl
  refine va_sld hx hb hX hbl hbA hS (vp_in_nI hi hL) hd ?_
  rw [nI_clamp (Nat.lt_trans hi hL)]
  exact kk H locs ls hP hD hS hl
theorem k_slen (F : kF g E l R cc own Ts nL) {b L : Nat} {xs : Nat → Int32} (X : kX g b L xs) {pc : Nat} (hd : decode cc pc = .ok (.arraylength, 1)) (kk : kK g ws lv ce sl (pc + 1) (.int (nI L) :: st)) : kK g ws lv ce sl pc (.ref b :: st) := by
  obtain ⟨p, l', e, R', s, m, args, below, meth, c, D, A, nL', Q⟩ := g
  obtain ⟨hx, hb, hml, hown, hts, hK, hA, rfl, rfl, rfl, rfl⟩ := F
  obtain ⟨hX, hbl, hbA⟩ := X
  intro H locs ls hP hD hS hl
  exact va_slen hx hb hX hbl hbA hS hd (kk H locs ls hP hD hS hl)
def kLw (g : kG) (b : Nat) : Prop := match g with
  | (_, _, _, R, s, _, args, below, meth, _, _, A, _, Q) => meth.sig.returnType = ret ∧ meth.locks = false ∧ args = #[Value.ref b] ∧ R = room_1 ∧ (∀ q, A q → s.heap.size ≤ q) ∧ Q = lw_Z below #[Value.ref b] s
theorem k_lawret (F : kF g E l R cL_law own Ts nL) {b : Nat} (hL : kLw g b) {pc : Nat} (hd : decode cL_law pc = .ok (.ireturn, 1)) : kK g ws lv 25 1117 pc [.int (nI 1)] := by
  obtain ⟨p, l', e, R', s, m, args, below, meth, c, D, A, nL', Q⟩ := g
  obtain ⟨hx, hb, hml, hown, hts, hK, hA, rfl, rfl, rfl, rfl⟩ := F
  obtain ⟨hr, hlocks, rfl, rfl, hA2, rfl⟩ := hL
  intro H locs ls hP hD hS hl
  exact va_forget (fun q hq => hA2 _ (hS.2.2 q hq)) (lw_ret hx hb hr hlocks hd)
end KLAW
