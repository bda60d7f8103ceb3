/-! my layer: the kit's rows over one bundled context: g the run's data, E the classes' numbers; kK: from the world ws, locals lv, pc, stack the end is reached; kF: what is known of g; kQ, kC: a contract whose end speaks of the answer and the new world -/
def bI (b : Bool) : Int32 := if b then 1 else 0
abbrev kE := va_G × ClassId × ClassId × ClassId
def kTy (E : kE) : List (ClassId × FieldType) := [(E.2.1, .int), (E.2.2.1, .long), (E.2.2.2, .boolean)]
abbrev cObj (a ci : Nat) (fs : List Value) : Nat × va_E := (a, .inr (ci, fs))
abbrev cInt (E : kE) (a n : Nat) (f : Nat → Int32) : Nat × va_E := (a, .inl (E.2.1, n, .inl f))
abbrev cLng (E : kE) (a n : Nat) (f : Nat → Int64) : Nat × va_E := (a, .inl (E.2.2.1, n, .inr (.inl f)))
abbrev cBoo (E : kE) (a n : Nat) (f : Nat → Bool) : Nat × va_E := (a, .inl (E.2.2.2, n, .inl (fun j => bI (f j))))
def upB (f : Nat → Bool) (k : Nat) (x : Bool) : Nat → Bool := fun j => if j = k then x else f j
abbrev kG := Program × Launch × Env × Room × State × MethodId × Array Value × List Frame × Method × Code × va_G × (Nat → Prop) × Nat × (State → Prop)
def kK (g : kG) (ws : va_W) (lv : List (Nat × Value)) (ce sl pc : Nat) (st : List Value) : Prop := match g with
  | (p, l, e, R, s, m, args, below, meth, c, D, A, nL, Q) => ∀ (H : Heap) (locs : List Loc) (ls : Array Slot), va_P D vwCl ws H → va_D A ws → va_S A s.heap H locs → lv_has ls nL lv → W p l e R s m args below meth c H locs ce sl Q (F0 m pc ls st)
def kF (g : kG) (E : kE) (l : Launch) (R : Room) (cc : ByteArray) (own : String) (Ts : List Cond) (nL : Nat) : Prop := match g with
  | (p, l', _, R', s, m, args, _, _, c, D, A, nL', _) => p.tables.exec = Jvm.exec ∧ c.code = cc ∧ c.maxLocals = nL ∧ s.vm.findClass own = some m.cls ∧ (∀ w ∈ Ts, w.before args s = true) ∧ va_K E.1 vwCl (kTy E) s ∧ (∀ q, s.heap.size ≤ q → A q) ∧ nL = nL' ∧ R = R' ∧ E.1 = D ∧ l = l'
def kQ (E : kE) (A : Nat → Prop) (Pf : Option Value → va_W → Prop) : Array Value → State → Outcome → State → Prop := fun _ st oc t => (∃ (v : Option Value) (w1 : va_W), oc = .returned v ∧ Pf v w1 ∧ va_P E.1 vwCl w1 t.heap ∧ va_K E.1 vwCl (kTy E) t ∧ va_D A w1) ∧ va_F A st t
def kRet (g : kG) (E : kE) (nm : String) (ret : Option FieldType) (mc ms : Nat) (Pf : Option Value → va_W → Prop) : Prop := match g with
  | (_, _, _, _, s, _, args, below, meth, _, _, A, _, Q) => meth.sig.returnType = ret ∧ meth.locks = false ∧ meth.name = nm ∧ Q = MQ below (kQ E A Pf) args s mc ms A
def kC (l : Launch) (y : MethodName) (ws : List Cond) (rm : Room) (E : kE) (argv : List Value) (w0 : va_W) (mc ms : Nat) (Pf : Option Value → va_W → Prop) : Prop := ∀ sz : Nat, Met l y ws rm (va_Pc argv (fun U => U.heap.size = sz ∧ va_P E.1 vwCl w0 U.heap ∧ va_K E.1 vwCl (kTy E) U ∧ va_D (fun _ => True) w0)) (kQ E (va_A w0 sz) Pf) mc ms (va_A w0 sz)
theorem k_fm {α : Type} {f : Nat → Option α} : ∀ {is : List Nat} {w : List α}, is.map f = w.map some → is.filterMap f = w
  | [], [], _ => rfl
  | [], _ :: _, h => by simp at h
  | _ :: _, [], h => by simp at h
  | i :: is, a :: w, h => by
    simp only [List.map_cons, List.cons.injEq] at h
    rw [List.filterMap_cons, h.1, k_fm h.2]
theorem kC.enter {l : Launch} {y : MethodName} {ws ws' : List Cond} {rm : Room} {E : kE} {argv : List Value} {w0 : va_W} {mc ms : Nat} {Pf : Option Value → va_W → Prop} (cc : ByteArray) (maxL : Nat) (ret : Option FieldType) (lv : List (Nat × Value)) (hy : plainName y.cls = true) (hw : ws = Cond.code y cc maxL ret :: ws') (hlen : (lg_sl argv).length ≤ maxL) (hlv : lv_args 0 argv = lv)
    (body : ∀ g : kG, kF g E l rm cc y.cls ws maxL → kRet g E y.name ret mc ms Pf → kK g w0 lv 0 0 0 []) : kC l y ws rm E argv w0 mc ms Pf := by
  intro sz
  refine Met.ofW (cc := cc) (maxL := maxL) (ret := ret) hy hw ?_
  intro p e s m args below meth c s₁ B hml hv
  obtain ⟨rfl, hsz, hP, hK, hD0⟩ := hv
  have hts := atoms_spec (ws := ws) B.pre
  have hown : s.vm.findClass y.cls = some m.cls := findClass_of_methodNamed B.named
  have hin : meth.name = y.name := (name_of_methodNamed B.named B.method).1
  subst hsz
  subst hlv
  have hl := lv_entry argv (n := maxL) hlen
  rw [lg_entry_eq]
  refine body (p, l, e, rm, s, m, argv.toArray, below, meth, c, E.1, va_A w0 s.heap.size, maxL, MQ below (kQ E (va_A w0 s.heap.size) Pf) argv.toArray s mc ms (va_A w0 s.heap.size)) ⟨B.exec, B.bytes, hml, hown, hts, hK, fun q h => Or.inr h, rfl, rfl, rfl, rfl⟩ ⟨B.returns, B.notSynchronized, hin, rfl⟩ s.heap [] _ hP hD0.self va_S.rf hl

theorem hD1 {A : Nat → Prop} {ws w0 : va_W} {isC : List Nat} (hn : va_nd isC = true) (hD : va_D A ws) (hC : isC.map (fun i => ws[i]?) = w0.map some) : va_D (fun _ => True) w0 := (hD.sub isC hn hC).weaken (fun _ _ _ _ => trivial)
section KL
variable {g : kG} {E : kE} {l : Launch} {R : Room} {cc : ByteArray} {own : String} {Ts : List Cond} {nL : Nat} {ws : va_W} {lv : List (Nat × Value)} {ce sl : Nat} {st : List Value}
theorem k_iconst (F : kF g E l R cc own Ts nL) {pc : Nat} {n : Int} (v : Int32) (hd : decode cc pc = .ok (.iconst n, 1)) (hv : Int32.ofInt n = v) (kk : kK g ws lv ce sl (pc + 1) (.int v :: st)) : kK g ws lv ce sl pc (st) := by
  obtain ⟨p, l', e, R', s, m, args, below, meth, c, D, A, nL', Q⟩ := g
  obtain ⟨hx, hb, hml, hown, hts, hK, hA, rfl, rfl, rfl, rfl⟩ := F
  intro H locs ls hP hD hS hl
  exact lv_iconst hx hb hd hv (kk H locs ls hP hD hS hl)
theorem k_bipush (F : kF g E l R cc own Ts nL) {pc : Nat} {n : Int} (v : Int32) (hd : decode cc pc = .ok (.bipush n, 2)) (hv : (Int8.ofInt n).toInt32 = v) (kk : kK g ws lv ce sl (pc + 2) (.int v :: st)) : kK g ws lv ce sl pc (st) := by
  obtain ⟨p, l', e, R', s, m, args, below, meth, c, D, A, nL', Q⟩ := g
  obtain ⟨hx, hb, hml, hown, hts, hK, hA, rfl, rfl, rfl, rfl⟩ := F
  intro H locs ls hP hD hS hl
  exact lv_bipush hx hb hd hv (kk H locs ls hP hD hS hl)
theorem k_sipush (F : kF g E l R cc own Ts nL) {pc : Nat} {n : Int} (v : Int32) (hd : decode cc pc = .ok (.sipush n, 3)) (hv : (Int16.ofInt n).toInt32 = v) (kk : kK g ws lv ce sl (pc + 3) (.int v :: st)) : kK g ws lv ce sl pc (st) := by
  obtain ⟨p, l', e, R', s, m, args, below, meth, c, D, A, nL', Q⟩ := g
  obtain ⟨hx, hb, hml, hown, hts, hK, hA, rfl, rfl, rfl, rfl⟩ := F
  intro H locs ls hP hD hS hl
  exact lv_sipush hx hb hd hv (kk H locs ls hP hD hS hl)
theorem k_lconst (F : kF g E l R cc own Ts nL) {pc : Nat} {n : Fin 2} (v : Int64) (hd : decode cc pc = .ok (.lconst n, 1)) (hv : Int64.ofNat n = v) (kk : kK g ws lv ce sl (pc + 1) (.long v :: st)) : kK g ws lv ce sl pc (st) := by
  obtain ⟨p, l', e, R', s, m, args, below, meth, c, D, A, nL', Q⟩ := g
  obtain ⟨hx, hb, hml, hown, hts, hK, hA, rfl, rfl, rfl, rfl⟩ := F
  intro H locs ls hP hD hS hl
  exact lv_lconst hx hb hd hv (kk H locs ls hP hD hS hl)
theorem k_ldc2 (F : kF g E l R cc own Ts nL) {pc : Nat} {index : Nat} (v : Int64) (hd : decode cc pc = .ok (.ldc2_w index, 3)) (hc : Cond.constantLong own index v ∈ Ts) (kk : kK g ws lv ce sl (pc + 3) (.long v :: st)) : kK g ws lv ce sl pc (st) := by
  obtain ⟨p, l', e, R', s, m, args, below, meth, c, D, A, nL', Q⟩ := g
  obtain ⟨hx, hb, hml, hown, hts, hK, hA, rfl, rfl, rfl, rfl⟩ := F
  intro H locs ls hP hD hS hl
  exact lv_ldc2 hx hb hown (hts _ hc) hd (kk H locs ls hP hD hS hl)
theorem k_ldc (F : kF g E l R cc own Ts nL) {pc : Nat} {index : Nat} (v : Int32) (hd : decode cc pc = .ok (.ldc index, 2)) (hc : Cond.constant own index v ∈ Ts) (kk : kK g ws lv ce sl (pc + 2) (.int v :: st)) : kK g ws lv ce sl pc (st) := by
  obtain ⟨p, l', e, R', s, m, args, below, meth, c, D, A, nL', Q⟩ := g
  obtain ⟨hx, hb, hml, hown, hts, hK, hA, rfl, rfl, rfl, rfl⟩ := F
  intro H locs ls hP hD hS hl
  exact lv_ldc hx hb hown (hts _ hc) hd (kk H locs ls hP hD hS hl)
theorem k_iload_n (F : kF g E l R cc own Ts nL) {pc : Nat} {n : Fin 4} {i : Nat} {x : Int32} (k : Nat) (hk : lv[k]? = some (i, .int x)) (hd : decode cc pc = .ok (.iload_n n, 1)) (hi : (n : Nat) = i) (kk : kK g ws lv ce sl (pc + 1) (.int x :: st)) : kK g ws lv ce sl pc (st) := by
  obtain ⟨p, l', e, R', s, m, args, below, meth, c, D, A, nL', Q⟩ := g
  obtain ⟨hx, hb, hml, hown, hts, hK, hA, rfl, rfl, rfl, rfl⟩ := F
  intro H locs ls hP hD hS hl
  exact lv_iload_n hx hb hd hi (lv_at hl k hk) (kk H locs ls hP hD hS hl)
theorem k_iload (F : kF g E l R cc own Ts nL) {pc : Nat} {i : Nat} {x : Int32} (k : Nat) (hk : lv[k]? = some (i, .int x)) (hd : decode cc pc = .ok (.iload i, 2)) (kk : kK g ws lv ce sl (pc + 2) (.int x :: st)) : kK g ws lv ce sl pc (st) := by
  obtain ⟨p, l', e, R', s, m, args, below, meth, c, D, A, nL', Q⟩ := g
  obtain ⟨hx, hb, hml, hown, hts, hK, hA, rfl, rfl, rfl, rfl⟩ := F
  intro H locs ls hP hD hS hl
  exact lv_iload hx hb hd (lv_at hl k hk) (kk H locs ls hP hD hS hl)
theorem k_istore_n (F : kF g E l R cc own Ts nL) {pc : Nat} {n : Fin 4} {i : Nat} {x : Int32} (lv' : List (Nat × Value)) (hd : decode cc pc = .ok (.istore_n n, 1)) (hi : (n : Nat) = i) (hn : i < nL) (hl' : (i, Value.int x) :: lv.filter (fun q => !(q.1 == i) && !(q.1 + 1 == i && q.2.category == 2)) = lv') (kk : kK g ws lv' ce sl (pc + 1) (st)) : kK g ws lv ce sl pc (.int x :: st) := by
  obtain ⟨p, l', e, R', s, m, args, below, meth, c, D, A, nL', Q⟩ := g
  obtain ⟨hx, hb, hml, hown, hts, hK, hA, rfl, rfl, rfl, rfl⟩ := F
  intro H locs ls hP hD hS hl
  exact lv_istore_n hx hb hd hi hl hn hl' (fun ls' hl' => kk H locs ls' hP hD hS hl')
theorem k_istore (F : kF g E l R cc own Ts nL) {pc : Nat} {i : Nat} {x : Int32} (lv' : List (Nat × Value)) (hd : decode cc pc = .ok (.istore i, 2)) (hn : i < nL) (hl' : (i, Value.int x) :: lv.filter (fun q => !(q.1 == i) && !(q.1 + 1 == i && q.2.category == 2)) = lv') (kk : kK g ws lv' ce sl (pc + 2) (st)) : kK g ws lv ce sl pc (.int x :: st) := by
  obtain ⟨p, l', e, R', s, m, args, below, meth, c, D, A, nL', Q⟩ := g
  obtain ⟨hx, hb, hml, hown, hts, hK, hA, rfl, rfl, rfl, rfl⟩ := F
  intro H locs ls hP hD hS hl
  exact lv_istore hx hb hd hl hn hl' (fun ls' hl' => kk H locs ls' hP hD hS hl')
theorem k_lload_n (F : kF g E l R cc own Ts nL) {pc : Nat} {n : Fin 4} {i : Nat} {x : Int64} (k : Nat) (hk : lv[k]? = some (i, .long x)) (hd : decode cc pc = .ok (.lload_n n, 1)) (hi : (n : Nat) = i) (kk : kK g ws lv ce sl (pc + 1) (.long x :: st)) : kK g ws lv ce sl pc (st) := by
  obtain ⟨p, l', e, R', s, m, args, below, meth, c, D, A, nL', Q⟩ := g
  obtain ⟨hx, hb, hml, hown, hts, hK, hA, rfl, rfl, rfl, rfl⟩ := F
  intro H locs ls hP hD hS hl
  exact lv_lload_n hx hb hd hi (lv_at hl k hk) (kk H locs ls hP hD hS hl)
theorem k_lload (F : kF g E l R cc own Ts nL) {pc : Nat} {i : Nat} {x : Int64} (k : Nat) (hk : lv[k]? = some (i, .long x)) (hd : decode cc pc = .ok (.lload i, 2)) (kk : kK g ws lv ce sl (pc + 2) (.long x :: st)) : kK g ws lv ce sl pc (st) := by
  obtain ⟨p, l', e, R', s, m, args, below, meth, c, D, A, nL', Q⟩ := g
  obtain ⟨hx, hb, hml, hown, hts, hK, hA, rfl, rfl, rfl, rfl⟩ := F
  intro H locs ls hP hD hS hl
  exact lv_lload hx hb hd (lv_at hl k hk) (kk H locs ls hP hD hS hl)
theorem k_lstore_n (F : kF g E l R cc own Ts nL) {pc : Nat} {n : Fin 4} {i : Nat} {x : Int64} (lv' : List (Nat × Value)) (hd : decode cc pc = .ok (.lstore_n n, 1)) (hi : (n : Nat) = i) (hn : i + 1 < nL) (hl' : (i, Value.long x) :: lv.filter (fun q => !(q.1 == i) && (!(q.1 == i + 1) && !(q.1 + 1 == i && q.2.category == 2))) = lv') (kk : kK g ws lv' ce sl (pc + 1) (st)) : kK g ws lv ce sl pc (.long x :: st) := by
  obtain ⟨p, l', e, R', s, m, args, below, meth, c, D, A, nL', Q⟩ := g
  obtain ⟨hx, hb, hml, hown, hts, hK, hA, rfl, rfl, rfl, rfl⟩ := F
  intro H locs ls hP hD hS hl
  exact lv_lstore_n hx hb hd hi hl hn hl' (fun ls' hl' => kk H locs ls' hP hD hS hl')
theorem k_lstore (F : kF g E l R cc own Ts nL) {pc : Nat} {i : Nat} {x : Int64} (lv' : List (Nat × Value)) (hd : decode cc pc = .ok (.lstore i, 2)) (hn : i + 1 < nL) (hl' : (i, Value.long x) :: lv.filter (fun q => !(q.1 == i) && (!(q.1 == i + 1) && !(q.1 + 1 == i && q.2.category == 2))) = lv') (kk : kK g ws lv' ce sl (pc + 2) (st)) : kK g ws lv ce sl pc (.long x :: st) := by
  obtain ⟨p, l', e, R', s, m, args, below, meth, c, D, A, nL', Q⟩ := g
  obtain ⟨hx, hb, hml, hown, hts, hK, hA, rfl, rfl, rfl, rfl⟩ := F
  intro H locs ls hP hD hS hl
  exact lv_lstore hx hb hd hl hn hl' (fun ls' hl' => kk H locs ls' hP hD hS hl')
theorem k_aload_n (F : kF g E l R cc own Ts nL) {pc : Nat} {n : Fin 4} {i : Nat} {x : Nat} (k : Nat) (hk : lv[k]? = some (i, .ref x)) (hd : decode cc pc = .ok (.aload_n n, 1)) (hi : (n : Nat) = i) (kk : kK g ws lv ce sl (pc + 1) (.ref x :: st)) : kK g ws lv ce sl pc (st) := by
  obtain ⟨p, l', e, R', s, m, args, below, meth, c, D, A, nL', Q⟩ := g
  obtain ⟨hx, hb, hml, hown, hts, hK, hA, rfl, rfl, rfl, rfl⟩ := F
  intro H locs ls hP hD hS hl
  exact lv_aload_n hx hb hd hi (lv_at hl k hk) (kk H locs ls hP hD hS hl)
theorem k_aload (F : kF g E l R cc own Ts nL) {pc : Nat} {i : Nat} {x : Nat} (k : Nat) (hk : lv[k]? = some (i, .ref x)) (hd : decode cc pc = .ok (.aload i, 2)) (kk : kK g ws lv ce sl (pc + 2) (.ref x :: st)) : kK g ws lv ce sl pc (st) := by
  obtain ⟨p, l', e, R', s, m, args, below, meth, c, D, A, nL', Q⟩ := g
  obtain ⟨hx, hb, hml, hown, hts, hK, hA, rfl, rfl, rfl, rfl⟩ := F
  intro H locs ls hP hD hS hl
  exact lv_aload hx hb hd (lv_at hl k hk) (kk H locs ls hP hD hS hl)
theorem k_astore_n (F : kF g E l R cc own Ts nL) {pc : Nat} {n : Fin 4} {i : Nat} {x : Nat} (lv' : List (Nat × Value)) (hd : decode cc pc = .ok (.astore_n n, 1)) (hi : (n : Nat) = i) (hn : i < nL) (hl' : (i, Value.ref x) :: lv.filter (fun q => !(q.1 == i) && !(q.1 + 1 == i && q.2.category == 2)) = lv') (kk : kK g ws lv' ce sl (pc + 1) (st)) : kK g ws lv ce sl pc (.ref x :: st) := by
  obtain ⟨p, l', e, R', s, m, args, below, meth, c, D, A, nL', Q⟩ := g
  obtain ⟨hx, hb, hml, hown, hts, hK, hA, rfl, rfl, rfl, rfl⟩ := F
  intro H locs ls hP hD hS hl
  exact lv_astore_n hx hb hd hi hl hn hl' (fun ls' hl' => kk H locs ls' hP hD hS hl')
theorem k_astore (F : kF g E l R cc own Ts nL) {pc : Nat} {i : Nat} {x : Nat} (lv' : List (Nat × Value)) (hd : decode cc pc = .ok (.astore i, 2)) (hn : i < nL) (hl' : (i, Value.ref x) :: lv.filter (fun q => !(q.1 == i) && !(q.1 + 1 == i && q.2.category == 2)) = lv') (kk : kK g ws lv' ce sl (pc + 2) (st)) : kK g ws lv ce sl pc (.ref x :: st) := by
  obtain ⟨p, l', e, R', s, m, args, below, meth, c, D, A, nL', Q⟩ := g
  obtain ⟨hx, hb, hml, hown, hts, hK, hA, rfl, rfl, rfl, rfl⟩ := F
  intro H locs ls hP hD hS hl
  exact lv_astore hx hb hd hl hn hl' (fun ls' hl' => kk H locs ls' hP hD hS hl')
theorem k_iinc (F : kF g E l R cc own Ts nL) {pc : Nat} {i : Nat} {n : Int} {x : Int32} (k : Nat) (v : Int32) (lv' : List (Nat × Value)) (hd : decode cc pc = .ok (.iinc i n, 3)) (hk : lv[k]? = some (i, .int x)) (hv : x + Int32.ofInt n = v) (hn : i < nL) (hl' : (i, Value.int v) :: lv.filter (fun q => !(q.1 == i) && !(q.1 + 1 == i && q.2.category == 2)) = lv') (kk : kK g ws lv' ce sl (pc + 3) (st)) : kK g ws lv ce sl pc (st) := by
  obtain ⟨p, l', e, R', s, m, args, below, meth, c, D, A, nL', Q⟩ := g
  obtain ⟨hx, hb, hml, hown, hts, hK, hA, rfl, rfl, rfl, rfl⟩ := F
  intro H locs ls hP hD hS hl
  exact lv_iinc hx hb hd hl hk hv hn hl' (fun ls' hl' => kk H locs ls' hP hD hS hl')
theorem k_iadd (F : kF g E l R cc own Ts nL) {pc : Nat} {x y : Int32} (hd : decode cc pc = .ok (.iadd, 1)) (kk : kK g ws lv ce sl (pc + 1) (.int (x + y) :: st)) : kK g ws lv ce sl pc (.int y :: .int x :: st) := by
  obtain ⟨p, l', e, R', s, m, args, below, meth, c, D, A, nL', Q⟩ := g
  obtain ⟨hx, hb, hml, hown, hts, hK, hA, rfl, rfl, rfl, rfl⟩ := F
  intro H locs ls hP hD hS hl
  exact lv_iadd hx hb hd (kk H locs ls hP hD hS hl)
theorem k_isub (F : kF g E l R cc own Ts nL) {pc : Nat} {x y : Int32} (hd : decode cc pc = .ok (.isub, 1)) (kk : kK g ws lv ce sl (pc + 1) (.int (x - y) :: st)) : kK g ws lv ce sl pc (.int y :: .int x :: st) := by
  obtain ⟨p, l', e, R', s, m, args, below, meth, c, D, A, nL', Q⟩ := g
  obtain ⟨hx, hb, hml, hown, hts, hK, hA, rfl, rfl, rfl, rfl⟩ := F
  intro H locs ls hP hD hS hl
  exact lv_isub hx hb hd (kk H locs ls hP hD hS hl)
theorem k_imul (F : kF g E l R cc own Ts nL) {pc : Nat} {x y : Int32} (hd : decode cc pc = .ok (.imul, 1)) (kk : kK g ws lv ce sl (pc + 1) (.int (x * y) :: st)) : kK g ws lv ce sl pc (.int y :: .int x :: st) := by
  obtain ⟨p, l', e, R', s, m, args, below, meth, c, D, A, nL', Q⟩ := g
  obtain ⟨hx, hb, hml, hown, hts, hK, hA, rfl, rfl, rfl, rfl⟩ := F
  intro H locs ls hP hD hS hl
  exact lv_imul hx hb hd (kk H locs ls hP hD hS hl)
theorem k_iand (F : kF g E l R cc own Ts nL) {pc : Nat} {x y : Int32} (hd : decode cc pc = .ok (.iand, 1)) (kk : kK g ws lv ce sl (pc + 1) (.int (x &&& y) :: st)) : kK g ws lv ce sl pc (.int y :: .int x :: st) := by
  obtain ⟨p, l', e, R', s, m, args, below, meth, c, D, A, nL', Q⟩ := g
  obtain ⟨hx, hb, hml, hown, hts, hK, hA, rfl, rfl, rfl, rfl⟩ := F
  intro H locs ls hP hD hS hl
  exact lv_iand hx hb hd (kk H locs ls hP hD hS hl)
theorem k_ladd (F : kF g E l R cc own Ts nL) {pc : Nat} {x y : Int64} (hd : decode cc pc = .ok (.ladd, 1)) (kk : kK g ws lv ce sl (pc + 1) (.long (x + y) :: st)) : kK g ws lv ce sl pc (.long y :: .long x :: st) := by
  obtain ⟨p, l', e, R', s, m, args, below, meth, c, D, A, nL', Q⟩ := g
  obtain ⟨hx, hb, hml, hown, hts, hK, hA, rfl, rfl, rfl, rfl⟩ := F
  intro H locs ls hP hD hS hl
  exact lv_ladd hx hb hd (kk H locs ls hP hD hS hl)
theorem k_lsub (F : kF g E l R cc own Ts nL) {pc : Nat} {x y : Int64} (hd : decode cc pc = .ok (.lsub, 1)) (kk : kK g ws lv ce sl (pc + 1) (.long (x - y) :: st)) : kK g ws lv ce sl pc (.long y :: .long x :: st) := by
  obtain ⟨p, l', e, R', s, m, args, below, meth, c, D, A, nL', Q⟩ := g
  obtain ⟨hx, hb, hml, hown, hts, hK, hA, rfl, rfl, rfl, rfl⟩ := F
  intro H locs ls hP hD hS hl
  exact lv_lsub hx hb hd (kk H locs ls hP hD hS hl)
theorem k_lmul (F : kF g E l R cc own Ts nL) {pc : Nat} {x y : Int64} (hd : decode cc pc = .ok (.lmul, 1)) (kk : kK g ws lv ce sl (pc + 1) (.long (x * y) :: st)) : kK g ws lv ce sl pc (.long y :: .long x :: st) := by
  obtain ⟨p, l', e, R', s, m, args, below, meth, c, D, A, nL', Q⟩ := g
  obtain ⟨hx, hb, hml, hown, hts, hK, hA, rfl, rfl, rfl, rfl⟩ := F
  intro H locs ls hP hD hS hl
  exact lv_lmul hx hb hd (kk H locs ls hP hD hS hl)
theorem k_ldiv (F : kF g E l R cc own Ts nL) {pc : Nat} {x y : Int64} (hd : decode cc pc = .ok (.ldiv, 1)) (hne : ¬ y = 0) (kk : kK g ws lv ce sl (pc + 1) (.long (x / y) :: st)) : kK g ws lv ce sl pc (.long y :: .long x :: st) := by
  obtain ⟨p, l', e, R', s, m, args, below, meth, c, D, A, nL', Q⟩ := g
  obtain ⟨hx, hb, hml, hown, hts, hK, hA, rfl, rfl, rfl, rfl⟩ := F
  intro H locs ls hP hD hS hl
  exact lv_ldiv hx hb hd hne (kk H locs ls hP hD hS hl)
theorem k_lneg (F : kF g E l R cc own Ts nL) {pc : Nat} {x : Int64} (hd : decode cc pc = .ok (.lneg, 1)) (kk : kK g ws lv ce sl (pc + 1) (.long (-x) :: st)) : kK g ws lv ce sl pc (.long x :: st) := by
  obtain ⟨p, l', e, R', s, m, args, below, meth, c, D, A, nL', Q⟩ := g
  obtain ⟨hx, hb, hml, hown, hts, hK, hA, rfl, rfl, rfl, rfl⟩ := F
  intro H locs ls hP hD hS hl
  exact lv_lneg hx hb hd (kk H locs ls hP hD hS hl)
theorem k_lshr (F : kF g E l R cc own Ts nL) {pc : Nat} {x : Int64} {y : Int32} (v : Int64) (hd : decode cc pc = .ok (.lshr, 1)) (hv : x >>> (y.toInt64 &&& 63) = v) (kk : kK g ws lv ce sl (pc + 1) (.long v :: st)) : kK g ws lv ce sl pc (.int y :: .long x :: st) := by
  obtain ⟨p, l', e, R', s, m, args, below, meth, c, D, A, nL', Q⟩ := g
  obtain ⟨hx, hb, hml, hown, hts, hK, hA, rfl, rfl, rfl, rfl⟩ := F
  intro H locs ls hP hD hS hl
  exact lv_lshr hx hb hd hv (kk H locs ls hP hD hS hl)
theorem k_lshl (F : kF g E l R cc own Ts nL) {pc : Nat} {x : Int64} {y : Int32} (v : Int64) (hd : decode cc pc = .ok (.lshl, 1)) (hv : x <<< (y.toInt64 &&& 63) = v) (kk : kK g ws lv ce sl (pc + 1) (.long v :: st)) : kK g ws lv ce sl pc (.int y :: .long x :: st) := by
  obtain ⟨p, l', e, R', s, m, args, below, meth, c, D, A, nL', Q⟩ := g
  obtain ⟨hx, hb, hml, hown, hts, hK, hA, rfl, rfl, rfl, rfl⟩ := F
  intro H locs ls hP hD hS hl
  exact lv_lshl hx hb hd hv (kk H locs ls hP hD hS hl)
theorem k_i2l (F : kF g E l R cc own Ts nL) {pc : Nat} {x : Int32} (v : Int64) (hd : decode cc pc = .ok (.i2l, 1)) (hv : x.toInt64 = v) (kk : kK g ws lv ce sl (pc + 1) (.long v :: st)) : kK g ws lv ce sl pc (.int x :: st) := by
  obtain ⟨p, l', e, R', s, m, args, below, meth, c, D, A, nL', Q⟩ := g
  obtain ⟨hx, hb, hml, hown, hts, hK, hA, rfl, rfl, rfl, rfl⟩ := F
  intro H locs ls hP hD hS hl
  exact lv_i2l hx hb hd hv (kk H locs ls hP hD hS hl)
theorem k_l2i (F : kF g E l R cc own Ts nL) {pc : Nat} {x : Int64} (v : Int32) (hd : decode cc pc = .ok (.l2i, 1)) (hv : x.toInt32 = v) (kk : kK g ws lv ce sl (pc + 1) (.int v :: st)) : kK g ws lv ce sl pc (.long x :: st) := by
  obtain ⟨p, l', e, R', s, m, args, below, meth, c, D, A, nL', Q⟩ := g
  obtain ⟨hx, hb, hml, hown, hts, hK, hA, rfl, rfl, rfl, rfl⟩ := F
  intro H locs ls hP hD hS hl
  exact lv_l2i hx hb hd hv (kk H locs ls hP hD hS hl)
theorem k_iaddN (F : kF g E l R cc own Ts nL) {pc : Nat} {a b : Nat} (hd : decode cc pc = .ok (.iadd, 1)) (kk : kK g ws lv ce sl (pc + 1) (.int (nI (a + b)) :: st)) : kK g ws lv ce sl pc (.int (nI b) :: .int (nI a) :: st) := by
  obtain ⟨p, l', e, R', s, m, args, below, meth, c, D, A, nL', Q⟩ := g
  obtain ⟨hx, hb, hml, hown, hts, hK, hA, rfl, rfl, rfl, rfl⟩ := F
  intro H locs ls hP hD hS hl
  exact lv_iadd hx hb hd (by rw [nI_add]; exact (kk H locs ls hP hD hS hl))
theorem k_iadd0 (F : kF g E l R cc own Ts nL) {pc : Nat} {a : Nat} (hd : decode cc pc = .ok (.iadd, 1)) (kk : kK g ws lv ce sl (pc + 1) (.int (nI a) :: st)) : kK g ws lv ce sl pc (.int (nI 0) :: .int (nI a) :: st) := by
  obtain ⟨p, l', e, R', s, m, args, below, meth, c, D, A, nL', Q⟩ := g
  obtain ⟨hx, hb, hml, hown, hts, hK, hA, rfl, rfl, rfl, rfl⟩ := F
  intro H locs ls hP hD hS hl
  exact lv_iadd hx hb hd (by rw [nI_add]; exact (kk H locs ls hP hD hS hl))
theorem k_imulN (F : kF g E l R cc own Ts nL) {pc : Nat} {a b : Nat} (hd : decode cc pc = .ok (.imul, 1)) (kk : kK g ws lv ce sl (pc + 1) (.int (nI (a * b)) :: st)) : kK g ws lv ce sl pc (.int (nI b) :: .int (nI a) :: st) := by
  obtain ⟨p, l', e, R', s, m, args, below, meth, c, D, A, nL', Q⟩ := g
  obtain ⟨hx, hb, hml, hown, hts, hK, hA, rfl, rfl, rfl, rfl⟩ := F
  intro H locs ls hP hD hS hl
  exact lv_imul hx hb hd (by rw [pk_mul]; exact (kk H locs ls hP hD hS hl))
theorem k_imulC (F : kF g E l R cc own Ts nL) {pc : Nat} {a b : Nat} (hd : decode cc pc = .ok (.imul, 1)) (kk : kK g ws lv ce sl (pc + 1) (.int (nI (b * a)) :: st)) : kK g ws lv ce sl pc (.int (nI b) :: .int (nI a) :: st) := by
  obtain ⟨p, l', e, R', s, m, args, below, meth, c, D, A, nL', Q⟩ := g
  obtain ⟨hx, hb, hml, hown, hts, hK, hA, rfl, rfl, rfl, rfl⟩ := F
  intro H locs ls hP hD hS hl
  exact lv_imul hx hb hd (by rw [pk_mul, Nat.mul_comm]; exact (kk H locs ls hP hD hS hl))
theorem k_isubN (F : kF g E l R cc own Ts nL) {pc : Nat} {a b : Nat} (hd : decode cc pc = .ok (.isub, 1)) (hle : b ≤ a) (kk : kK g ws lv ce sl (pc + 1) (.int (nI (a - b)) :: st)) : kK g ws lv ce sl pc (.int (nI b) :: .int (nI a) :: st) := by
  obtain ⟨p, l', e, R', s, m, args, below, meth, c, D, A, nL', Q⟩ := g
  obtain ⟨hx, hb, hml, hown, hts, hK, hA, rfl, rfl, rfl, rfl⟩ := F
  intro H locs ls hP hD hS hl
  exact lv_isub hx hb hd (by rw [pk_sub hle]; exact (kk H locs ls hP hD hS hl))
theorem k_dup (F : kF g E l R cc own Ts nL) {pc : Nat} {v : Value} (hd : decode cc pc = .ok (.dup, 1)) (hc : v.category = 1) (kk : kK g ws lv ce sl (pc + 1) (v :: v :: st)) : kK g ws lv ce sl pc (v :: st) := by
  obtain ⟨p, l', e, R', s, m, args, below, meth, c, D, A, nL', Q⟩ := g
  obtain ⟨hx, hb, hml, hown, hts, hK, hA, rfl, rfl, rfl, rfl⟩ := F
  intro H locs ls hP hD hS hl
  exact lv_dup hx hb hd hc (kk H locs ls hP hD hS hl)
theorem k_pop (F : kF g E l R cc own Ts nL) {pc : Nat} {v : Value} (hd : decode cc pc = .ok (.pop, 1)) (hc : v.category = 1) (kk : kK g ws lv ce sl (pc + 1) (st)) : kK g ws lv ce sl pc (v :: st) := by
  obtain ⟨p, l', e, R', s, m, args, below, meth, c, D, A, nL', Q⟩ := g
  obtain ⟨hx, hb, hml, hown, hts, hK, hA, rfl, rfl, rfl, rfl⟩ := F
  intro H locs ls hP hD hS hl
  exact lv_pop hx hb hd hc (kk H locs ls hP hD hS hl)
theorem k_goto (F : kF g E l R cc own Ts nL) {pc : Nat} {off : Int} (tgt : Nat) (hd : decode cc pc = .ok (.goto off, 3)) (ht : (pc : Int) + off = (tgt : Int)) (kk : kK g ws lv ce sl tgt st) : kK g ws lv ce sl pc st := by
  obtain ⟨p, l', e, R', s, m, args, below, meth, c, D, A, nL', Q⟩ := g
  obtain ⟨hx, hb, hml, hown, hts, hK, hA, rfl, rfl, rfl, rfl⟩ := F
  intro H locs ls hP hD hS hl
  exact lv_goto hx hb hd ht (kk H locs ls hP hD hS hl)
theorem k_t0 : (0 : Int32).toInt = 0 := by decide
theorem k_eqT {x y : Int32} : x = y ↔ x.toInt = y.toInt := ⟨fun h => by rw [h], fun h => Int32.toInt_inj.mp h⟩
theorem k_icmp_eq (F : kF g E l R cc own Ts nL) {pc : Nat} {off : Int} {x y : Int32} {xi yi : Int} (tgt : Nat) (hd : decode cc pc = .ok (.if_icmp .eq off, 3)) (ht : (pc : Int) + off = (tgt : Int)) (hxi : x.toInt = xi) (hyi : y.toInt = yi) (kt : xi = yi → kK g ws lv ce sl tgt st) (kf : ¬ xi = yi → kK g ws lv ce sl (pc + 3) st) : kK g ws lv ce sl pc (.int y :: .int x :: st) := by
  obtain ⟨p, l', e, R', s, m, args, below, meth, c, D, A, nL', Q⟩ := g
  obtain ⟨hx, hb, hml, hown, hts, hK, hA, rfl, rfl, rfl, rfl⟩ := F
  intro H locs ls hP hD hS hl
  subst hxi; subst hyi
  refine lv_icmp_eq hx hb hd ht (fun h => kt ?_ H locs ls hP hD hS hl) (fun h => kf ?_ H locs ls hP hD hS hl)
  all_goals simp only [ne_eq, k_eqT, Int32.lt_iff_toInt_lt, Int32.le_iff_toInt_le] at h
  all_goals omega
theorem k_if_eq (F : kF g E l R cc own Ts nL) {pc : Nat} {off : Int} {x : Int32} {xi : Int} (tgt : Nat) (hd : decode cc pc = .ok (.ifCond .eq off, 3)) (ht : (pc : Int) + off = (tgt : Int)) (hxi : x.toInt = xi) (kt : xi = 0 → kK g ws lv ce sl tgt st) (kf : ¬ xi = 0 → kK g ws lv ce sl (pc + 3) st) : kK g ws lv ce sl pc (.int x :: st) := by
  obtain ⟨p, l', e, R', s, m, args, below, meth, c, D, A, nL', Q⟩ := g
  obtain ⟨hx, hb, hml, hown, hts, hK, hA, rfl, rfl, rfl, rfl⟩ := F
  intro H locs ls hP hD hS hl
  subst hxi
  refine lv_if_eq hx hb hd ht (fun h => kt ?_ H locs ls hP hD hS hl) (fun h => kf ?_ H locs ls hP hD hS hl)
  all_goals simp only [ne_eq, k_eqT, Int32.lt_iff_toInt_lt, Int32.le_iff_toInt_le, k_t0] at h
  all_goals omega
theorem k_icmp_ne (F : kF g E l R cc own Ts nL) {pc : Nat} {off : Int} {x y : Int32} {xi yi : Int} (tgt : Nat) (hd : decode cc pc = .ok (.if_icmp .ne off, 3)) (ht : (pc : Int) + off = (tgt : Int)) (hxi : x.toInt = xi) (hyi : y.toInt = yi) (kt : ¬ xi = yi → kK g ws lv ce sl tgt st) (kf : xi = yi → kK g ws lv ce sl (pc + 3) st) : kK g ws lv ce sl pc (.int y :: .int x :: st) := by
  obtain ⟨p, l', e, R', s, m, args, below, meth, c, D, A, nL', Q⟩ := g
  obtain ⟨hx, hb, hml, hown, hts, hK, hA, rfl, rfl, rfl, rfl⟩ := F
  intro H locs ls hP hD hS hl
  subst hxi; subst hyi
  refine lv_icmp_ne hx hb hd ht (fun h => kt ?_ H locs ls hP hD hS hl) (fun h => kf ?_ H locs ls hP hD hS hl)
  all_goals simp only [ne_eq, k_eqT, Int32.lt_iff_toInt_lt, Int32.le_iff_toInt_le] at h
  all_goals omega
theorem k_if_ne (F : kF g E l R cc own Ts nL) {pc : Nat} {off : Int} {x : Int32} {xi : Int} (tgt : Nat) (hd : decode cc pc = .ok (.ifCond .ne off, 3)) (ht : (pc : Int) + off = (tgt : Int)) (hxi : x.toInt = xi) (kt : ¬ xi = 0 → kK g ws lv ce sl tgt st) (kf : xi = 0 → kK g ws lv ce sl (pc + 3) st) : kK g ws lv ce sl pc (.int x :: st) := by
  obtain ⟨p, l', e, R', s, m, args, below, meth, c, D, A, nL', Q⟩ := g
  obtain ⟨hx, hb, hml, hown, hts, hK, hA, rfl, rfl, rfl, rfl⟩ := F
  intro H locs ls hP hD hS hl
  subst hxi
  refine lv_if_ne hx hb hd ht (fun h => kt ?_ H locs ls hP hD hS hl) (fun h => kf ?_ H locs ls hP hD hS hl)
  all_goals simp only [ne_eq, k_eqT, Int32.lt_iff_toInt_lt, Int32.le_iff_toInt_le, k_t0] at h
  all_goals omega
theorem k_icmp_lt (F : kF g E l R cc own Ts nL) {pc : Nat} {off : Int} {x y : Int32} {xi yi : Int} (tgt : Nat) (hd : decode cc pc = .ok (.if_icmp .lt off, 3)) (ht : (pc : Int) + off = (tgt : Int)) (hxi : x.toInt = xi) (hyi : y.toInt = yi) (kt : xi < yi → kK g ws lv ce sl tgt st) (kf : yi ≤ xi → kK g ws lv ce sl (pc + 3) st) : kK g ws lv ce sl pc (.int y :: .int x :: st) := by
  obtain ⟨p, l', e, R', s, m, args, below, meth, c, D, A, nL', Q⟩ := g
  obtain ⟨hx, hb, hml, hown, hts, hK, hA, rfl, rfl, rfl, rfl⟩ := F
  intro H locs ls hP hD hS hl
  subst hxi; subst hyi
  refine lv_icmp_lt hx hb hd ht (fun h => kt ?_ H locs ls hP hD hS hl) (fun h => kf ?_ H locs ls hP hD hS hl)
  all_goals simp only [ne_eq, k_eqT, Int32.lt_iff_toInt_lt, Int32.le_iff_toInt_le] at h
  all_goals omega
theorem k_if_lt (F : kF g E l R cc own Ts nL) {pc : Nat} {off : Int} {x : Int32} {xi : Int} (tgt : Nat) (hd : decode cc pc = .ok (.ifCond .lt off, 3)) (ht : (pc : Int) + off = (tgt : Int)) (hxi : x.toInt = xi) (kt : xi < 0 → kK g ws lv ce sl tgt st) (kf : 0 ≤ xi → kK g ws lv ce sl (pc + 3) st) : kK g ws lv ce sl pc (.int x :: st) := by
  obtain ⟨p, l', e, R', s, m, args, below, meth, c, D, A, nL', Q⟩ := g
  obtain ⟨hx, hb, hml, hown, hts, hK, hA, rfl, rfl, rfl, rfl⟩ := F
  intro H locs ls hP hD hS hl
  subst hxi
  refine lv_if_lt hx hb hd ht (fun h => kt ?_ H locs ls hP hD hS hl) (fun h => kf ?_ H locs ls hP hD hS hl)
  all_goals simp only [ne_eq, k_eqT, Int32.lt_iff_toInt_lt, Int32.le_iff_toInt_le, k_t0] at h
  all_goals omega
theorem k_icmp_ge (F : kF g E l R cc own Ts nL) {pc : Nat} {off : Int} {x y : Int32} {xi yi : Int} (tgt : Nat) (hd : decode cc pc = .ok (.if_icmp .ge off, 3)) (ht : (pc : Int) + off = (tgt : Int)) (hxi : x.toInt = xi) (hyi : y.toInt = yi) (kt : yi ≤ xi → kK g ws lv ce sl tgt st) (kf : xi < yi → kK g ws lv ce sl (pc + 3) st) : kK g ws lv ce sl pc (.int y :: .int x :: st) := by
  obtain ⟨p, l', e, R', s, m, args, below, meth, c, D, A, nL', Q⟩ := g
  obtain ⟨hx, hb, hml, hown, hts, hK, hA, rfl, rfl, rfl, rfl⟩ := F
  intro H locs ls hP hD hS hl
  subst hxi; subst hyi
  refine lv_icmp_ge hx hb hd ht (fun h => kt ?_ H locs ls hP hD hS hl) (fun h => kf ?_ H locs ls hP hD hS hl)
  all_goals simp only [ne_eq, k_eqT, Int32.lt_iff_toInt_lt, Int32.le_iff_toInt_le] at h
  all_goals omega
theorem k_if_ge (F : kF g E l R cc own Ts nL) {pc : Nat} {off : Int} {x : Int32} {xi : Int} (tgt : Nat) (hd : decode cc pc = .ok (.ifCond .ge off, 3)) (ht : (pc : Int) + off = (tgt : Int)) (hxi : x.toInt = xi) (kt : 0 ≤ xi → kK g ws lv ce sl tgt st) (kf : xi < 0 → kK g ws lv ce sl (pc + 3) st) : kK g ws lv ce sl pc (.int x :: st) := by
  obtain ⟨p, l', e, R', s, m, args, below, meth, c, D, A, nL', Q⟩ := g
  obtain ⟨hx, hb, hml, hown, hts, hK, hA, rfl, rfl, rfl, rfl⟩ := F
  intro H locs ls hP hD hS hl
  subst hxi
  refine lv_if_ge hx hb hd ht (fun h => kt ?_ H locs ls hP hD hS hl) (fun h => kf ?_ H locs ls hP hD hS hl)
  all_goals simp only [ne_eq, k_eqT, Int32.lt_iff_toInt_lt, Int32.le_iff_toInt_le, k_t0] at h
  all_goals omega
theorem k_icmp_gt (F : kF g E l R cc own Ts nL) {pc : Nat} {off : Int} {x y : Int32} {xi yi : Int} (tgt : Nat) (hd : decode cc pc = .ok (.if_icmp .gt off, 3)) (ht : (pc : Int) + off = (tgt : Int)) (hxi : x.toInt = xi) (hyi : y.toInt = yi) (kt : yi < xi → kK g ws lv ce sl tgt st) (kf : xi ≤ yi → kK g ws lv ce sl (pc + 3) st) : kK g ws lv ce sl pc (.int y :: .int x :: st) := by
  obtain ⟨p, l', e, R', s, m, args, below, meth, c, D, A, nL', Q⟩ := g
  obtain ⟨hx, hb, hml, hown, hts, hK, hA, rfl, rfl, rfl, rfl⟩ := F
  intro H locs ls hP hD hS hl
  subst hxi; subst hyi
  refine lv_icmp_gt hx hb hd ht (fun h => kt ?_ H locs ls hP hD hS hl) (fun h => kf ?_ H locs ls hP hD hS hl)
  all_goals simp only [ne_eq, k_eqT, Int32.lt_iff_toInt_lt, Int32.le_iff_toInt_le] at h
  all_goals omega
theorem k_if_gt (F : kF g E l R cc own Ts nL) {pc : Nat} {off : Int} {x : Int32} {xi : Int} (tgt : Nat) (hd : decode cc pc = .ok (.ifCond .gt off, 3)) (ht : (pc : Int) + off = (tgt : Int)) (hxi : x.toInt = xi) (kt : 0 < xi → kK g ws lv ce sl tgt st) (kf : xi ≤ 0 → kK g ws lv ce sl (pc + 3) st) : kK g ws lv ce sl pc (.int x :: st) := by
  obtain ⟨p, l', e, R', s, m, args, below, meth, c, D, A, nL', Q⟩ := g
  obtain ⟨hx, hb, hml, hown, hts, hK, hA, rfl, rfl, rfl, rfl⟩ := F
  intro H locs ls hP hD hS hl
  subst hxi
  refine lv_if_gt hx hb hd ht (fun h => kt ?_ H locs ls hP hD hS hl) (fun h => kf ?_ H locs ls hP hD hS hl)
  all_goals simp only [ne_eq, k_eqT, Int32.lt_iff_toInt_lt, Int32.le_iff_toInt_le, k_t0] at h
  all_goals omega
theorem k_icmp_le (F : kF g E l R cc own Ts nL) {pc : Nat} {off : Int} {x y : Int32} {xi yi : Int} (tgt : Nat) (hd : decode cc pc = .ok (.if_icmp .le off, 3)) (ht : (pc : Int) + off = (tgt : Int)) (hxi : x.toInt = xi) (hyi : y.toInt = yi) (kt : xi ≤ yi → kK g ws lv ce sl tgt st) (kf : yi < xi → kK g ws lv ce sl (pc + 3) st) : kK g ws lv ce sl pc (.int y :: .int x :: st) := by
  obtain ⟨p, l', e, R', s, m, args, below, meth, c, D, A, nL', Q⟩ := g
  obtain ⟨hx, hb, hml, hown, hts, hK, hA, rfl, rfl, rfl, rfl⟩ := F
  intro H locs ls hP hD hS hl
  subst hxi; subst hyi
  refine lv_icmp_le hx hb hd ht (fun h => kt ?_ H locs ls hP hD hS hl) (fun h => kf ?_ H locs ls hP hD hS hl)
  all_goals simp only [ne_eq, k_eqT, Int32.lt_iff_toInt_lt, Int32.le_iff_toInt_le] at h
  all_goals omega
theorem k_if_le (F : kF g E l R cc own Ts nL) {pc : Nat} {off : Int} {x : Int32} {xi : Int} (tgt : Nat) (hd : decode cc pc = .ok (.ifCond .le off, 3)) (ht : (pc : Int) + off = (tgt : Int)) (hxi : x.toInt = xi) (kt : xi ≤ 0 → kK g ws lv ce sl tgt st) (kf : 0 < xi → kK g ws lv ce sl (pc + 3) st) : kK g ws lv ce sl pc (.int x :: st) := by
  obtain ⟨p, l', e, R', s, m, args, below, meth, c, D, A, nL', Q⟩ := g
  obtain ⟨hx, hb, hml, hown, hts, hK, hA, rfl, rfl, rfl, rfl⟩ := F
  intro H locs ls hP hD hS hl
  subst hxi
  refine lv_if_le hx hb hd ht (fun h => kt ?_ H locs ls hP hD hS hl) (fun h => kf ?_ H locs ls hP hD hS hl)
  all_goals simp only [ne_eq, k_eqT, Int32.lt_iff_toInt_lt, Int32.le_iff_toInt_le, k_t0] at h
  all_goals omega
theorem k_if_eqB (F : kF g E l R cc own Ts nL) {pc : Nat} {off : Int} {b : Bool} (tgt : Nat) (hd : decode cc pc = .ok (.ifCond .eq off, 3)) (ht : (pc : Int) + off = (tgt : Int)) (kt : b = false → kK g ws lv ce sl tgt st) (kf : b = true → kK g ws lv ce sl (pc + 3) st) : kK g ws lv ce sl pc (.int (bI b) :: st) := by
  obtain ⟨p, l', e, R', s, m, args, below, meth, c, D, A, nL', Q⟩ := g
  obtain ⟨hx, hb, hml, hown, hts, hK, hA, rfl, rfl, rfl, rfl⟩ := F
  intro H locs ls hP hD hS hl
  refine lv_if_eq hx hb hd ht (fun h => kt ?_ H locs ls hP hD hS hl) (fun h => kf ?_ H locs ls hP hD hS hl)
  all_goals (cases b <;> first | rfl | (exfalso; revert h; decide))
theorem k_if_neB (F : kF g E l R cc own Ts nL) {pc : Nat} {off : Int} {b : Bool} (tgt : Nat) (hd : decode cc pc = .ok (.ifCond .ne off, 3)) (ht : (pc : Int) + off = (tgt : Int)) (kt : b = true → kK g ws lv ce sl tgt st) (kf : b = false → kK g ws lv ce sl (pc + 3) st) : kK g ws lv ce sl pc (.int (bI b) :: st) := by
  obtain ⟨p, l', e, R', s, m, args, below, meth, c, D, A, nL', Q⟩ := g
  obtain ⟨hx, hb, hml, hown, hts, hK, hA, rfl, rfl, rfl, rfl⟩ := F
  intro H locs ls hP hD hS hl
  refine lv_if_ne hx hb hd ht (fun h => kt ?_ H locs ls hP hD hS hl) (fun h => kf ?_ H locs ls hP hD hS hl)
  all_goals (cases b <;> first | rfl | (exfalso; revert h; decide))
theorem k_cmpL {x y : Int64} : (lg_cmp x y < 0 ↔ x < y) ∧ (0 ≤ lg_cmp x y ↔ ¬ x < y) ∧ (0 < lg_cmp x y ↔ y < x) ∧ (lg_cmp x y ≤ 0 ↔ ¬ y < x) ∧ (lg_cmp x y = 0 ↔ x = y) := by
  have e1 : ((1 : Int32) < 0) = False := by decide
  have e2 : ((0 : Int32) ≤ 1) = True := by decide
  have e3 : ((0 : Int32) < 1) = True := by decide
  have e4 : ((1 : Int32) ≤ 0) = False := by decide
  have e5 : ((-1 : Int32) < 0) = True := by decide
  have e6 : ((0 : Int32) ≤ -1) = False := by decide
  have e7 : ((0 : Int32) < -1) = False := by decide
  have e8 : ((-1 : Int32) ≤ 0) = True := by decide
  have e9 : ((0 : Int32) < 0) = False := by decide
  have e10 : ((0 : Int32) ≤ 0) = True := by decide
  have e11 : ((1 : Int32) = 0) = False := by decide
  have e12 : ((-1 : Int32) = 0) = False := by decide
  unfold lg_cmp
  by_cases h1 : y < x
  · have h2 : ¬ x < y := by rw [Int64.lt_iff_toInt_lt] at *; omega
    have h3 : ¬ x = y := by intro h; subst h; rw [Int64.lt_iff_toInt_lt] at h1; omega
    simp only [gt_iff_lt, h1, h2, h3, if_true, e1, e2, e3, e4, e11, not_true, not_false_iff, iff_self, and_self]
  · by_cases h2 : x = y
    · subst h2
      simp only [gt_iff_lt, h1, if_true, if_false, e9, e10, not_true, not_false_iff, iff_self, and_self]
    · have h3 : x < y := by
        have : ¬ x.toInt = y.toInt := fun h => h2 (Int64.toInt_inj.mp h)
        rw [Int64.lt_iff_toInt_lt] at *; omega
      simp only [gt_iff_lt, h1, h2, h3, if_false, e5, e6, e7, e8, e12, not_true, not_false_iff, iff_self, and_self]
theorem k_lcmp_lt (F : kF g E l R cc own Ts nL) {pc : Nat} {off : Int} {x y : Int64} (tgt : Nat) (hd : decode cc pc = .ok (.lcmp, 1)) (hd2 : decode cc (pc + 1) = .ok (.ifCond .lt off, 3)) (ht : ((pc + 1 : Nat) : Int) + off = (tgt : Int)) (kt : x < y → kK g ws lv ce sl tgt st) (kf : ¬ x < y → kK g ws lv ce sl (pc + 4) st) : kK g ws lv ce sl pc (.long y :: .long x :: st) := by
  obtain ⟨p, l', e, R', s, m, args, below, meth, c, D, A, nL', Q⟩ := g
  obtain ⟨hx, hb, hml, hown, hts, hK, hA, rfl, rfl, rfl, rfl⟩ := F
  intro H locs ls hP hD hS hl
  exact W.lcmp hx hb hd (lv_if_lt hx hb hd2 ht (fun h => kt (k_cmpL.1.mp h) H locs ls hP hD hS hl) (fun h => kf (fun q => h (k_cmpL.1.mpr q)) H locs ls hP hD hS hl))
theorem k_lcmp_ge (F : kF g E l R cc own Ts nL) {pc : Nat} {off : Int} {x y : Int64} (tgt : Nat) (hd : decode cc pc = .ok (.lcmp, 1)) (hd2 : decode cc (pc + 1) = .ok (.ifCond .ge off, 3)) (ht : ((pc + 1 : Nat) : Int) + off = (tgt : Int)) (kt : ¬ x < y → kK g ws lv ce sl tgt st) (kf : x < y → kK g ws lv ce sl (pc + 4) st) : kK g ws lv ce sl pc (.long y :: .long x :: st) := by
  obtain ⟨p, l', e, R', s, m, args, below, meth, c, D, A, nL', Q⟩ := g
  obtain ⟨hx, hb, hml, hown, hts, hK, hA, rfl, rfl, rfl, rfl⟩ := F
  intro H locs ls hP hD hS hl
  exact W.lcmp hx hb hd (lv_if_ge hx hb hd2 ht (fun h => kt (k_cmpL.2.1.mp h) H locs ls hP hD hS hl) (fun h => kf (Classical.byContradiction fun q => h (k_cmpL.2.1.mpr q)) H locs ls hP hD hS hl))
theorem k_lcmp_gt (F : kF g E l R cc own Ts nL) {pc : Nat} {off : Int} {x y : Int64} (tgt : Nat) (hd : decode cc pc = .ok (.lcmp, 1)) (hd2 : decode cc (pc + 1) = .ok (.ifCond .gt off, 3)) (ht : ((pc + 1 : Nat) : Int) + off = (tgt : Int)) (kt : y < x → kK g ws lv ce sl tgt st) (kf : ¬ y < x → kK g ws lv ce sl (pc + 4) st) : kK g ws lv ce sl pc (.long y :: .long x :: st) := by
  obtain ⟨p, l', e, R', s, m, args, below, meth, c, D, A, nL', Q⟩ := g
  obtain ⟨hx, hb, hml, hown, hts, hK, hA, rfl, rfl, rfl, rfl⟩ := F
  intro H locs ls hP hD hS hl
  exact W.lcmp hx hb hd (lv_if_gt hx hb hd2 ht (fun h => kt (k_cmpL.2.2.1.mp h) H locs ls hP hD hS hl) (fun h => kf (fun q => h (k_cmpL.2.2.1.mpr q)) H locs ls hP hD hS hl))
theorem k_lcmp_le (F : kF g E l R cc own Ts nL) {pc : Nat} {off : Int} {x y : Int64} (tgt : Nat) (hd : decode cc pc = .ok (.lcmp, 1)) (hd2 : decode cc (pc + 1) = .ok (.ifCond .le off, 3)) (ht : ((pc + 1 : Nat) : Int) + off = (tgt : Int)) (kt : ¬ y < x → kK g ws lv ce sl tgt st) (kf : y < x → kK g ws lv ce sl (pc + 4) st) : kK g ws lv ce sl pc (.long y :: .long x :: st) := by
  obtain ⟨p, l', e, R', s, m, args, below, meth, c, D, A, nL', Q⟩ := g
  obtain ⟨hx, hb, hml, hown, hts, hK, hA, rfl, rfl, rfl, rfl⟩ := F
  intro H locs ls hP hD hS hl
  exact W.lcmp hx hb hd (lv_if_le hx hb hd2 ht (fun h => kt (k_cmpL.2.2.2.1.mp h) H locs ls hP hD hS hl) (fun h => kf (Classical.byContradiction fun q => h (k_cmpL.2.2.2.1.mpr q)) H locs ls hP hD hS hl))
theorem k_lcmp_eq (F : kF g E l R cc own Ts nL) {pc : Nat} {off : Int} {x y : Int64} (tgt : Nat) (hd : decode cc pc = .ok (.lcmp, 1)) (hd2 : decode cc (pc + 1) = .ok (.ifCond .eq off, 3)) (ht : ((pc + 1 : Nat) : Int) + off = (tgt : Int)) (kt : x = y → kK g ws lv ce sl tgt st) (kf : ¬ x = y → kK g ws lv ce sl (pc + 4) st) : kK g ws lv ce sl pc (.long y :: .long x :: st) := by
  obtain ⟨p, l', e, R', s, m, args, below, meth, c, D, A, nL', Q⟩ := g
  obtain ⟨hx, hb, hml, hown, hts, hK, hA, rfl, rfl, rfl, rfl⟩ := F
  intro H locs ls hP hD hS hl
  exact W.lcmp hx hb hd (lv_if_eq hx hb hd2 ht (fun h => kt (k_cmpL.2.2.2.2.mp h) H locs ls hP hD hS hl) (fun h => kf (fun q => h (k_cmpL.2.2.2.2.mpr q)) H locs ls hP hD hS hl))
theorem k_lcmp_ne (F : kF g E l R cc own Ts nL) {pc : Nat} {off : Int} {x y : Int64} (tgt : Nat) (hd : decode cc pc = .ok (.lcmp, 1)) (hd2 : decode cc (pc + 1) = .ok (.ifCond .ne off, 3)) (ht : ((pc + 1 : Nat) : Int) + off = (tgt : Int)) (kt : ¬ x = y → kK g ws lv ce sl tgt st) (kf : x = y → kK g ws lv ce sl (pc + 4) st) : kK g ws lv ce sl pc (.long y :: .long x :: st) := by
  obtain ⟨p, l', e, R', s, m, args, below, meth, c, D, A, nL', Q⟩ := g
  obtain ⟨hx, hb, hml, hown, hts, hK, hA, rfl, rfl, rfl, rfl⟩ := F
  intro H locs ls hP hD hS hl
  exact W.lcmp hx hb hd (lv_if_ne hx hb hd2 ht (fun h => kt (fun q => h (k_cmpL.2.2.2.2.mpr q)) H locs ls hP hD hS hl) (fun h => kf (k_cmpL.2.2.2.2.mp h) H locs ls hP hD hS hl))
theorem k_tabIn (F : kF g E l R cc own Ts nL) {pc : Nat} {dflt lo hi : Int} {offs : Array Int} {len : Nat} {x : Int32} {off : Int} (k : Int) (tgt : Nat) (hd : decode cc pc = .ok (.tableswitch dflt lo hi offs, len)) (hk : x.toInt = k) (h1 : ¬ k < lo) (h2 : ¬ hi < k) (ho : offs[(k - lo).toNat]? = some off) (ht : (pc : Int) + off = (tgt : Int)) (kk : kK g ws lv ce sl tgt st) : kK g ws lv ce sl pc (.int x :: st) := by
  obtain ⟨p, l', e, R', s, m, args, below, meth, c, D, A, nL', Q⟩ := g
  obtain ⟨hx, hb, hml, hown, hts, hK, hA, rfl, rfl, rfl, rfl⟩ := F
  intro H locs ls hP hD hS hl
  subst hk
  exact lv_tableIn hx hb hd h1 h2 ho ht (kk H locs ls hP hD hS hl)
theorem k_tabOut (F : kF g E l R cc own Ts nL) {pc : Nat} {dflt lo hi : Int} {offs : Array Int} {len : Nat} {x : Int32} (tgt : Nat) (hd : decode cc pc = .ok (.tableswitch dflt lo hi offs, len)) (h : x.toInt < lo ∨ hi < x.toInt) (ht : (pc : Int) + dflt = (tgt : Int)) (kk : kK g ws lv ce sl tgt st) : kK g ws lv ce sl pc (.int x :: st) := by
  obtain ⟨p, l', e, R', s, m, args, below, meth, c, D, A, nL', Q⟩ := g
  obtain ⟨hx, hb, hml, hown, hts, hK, hA, rfl, rfl, rfl, rfl⟩ := F
  intro H locs ls hP hD hS hl
  exact lv_tableOut hx hb hd h ht (kk H locs ls hP hD hS hl)
theorem k_look (F : kF g E l R cc own Ts nL) {pc : Nat} {dflt : Int} {ps : Array (Int × Int)} {len : Nat} {x : Int32} {off : Int} (tgt : Nat) (hd : decode cc pc = .ok (.lookupswitch dflt ps, len)) (hp : (ps.toList.zip (ps.toList.drop 1)).all (fun (a, next) => a.1 < next.1) = true) (ho : Op.lookupswitch.offset ps.toList dflt x.toInt = off) (ht : (pc : Int) + off = (tgt : Int)) (kk : kK g ws lv ce sl tgt st) : kK g ws lv ce sl pc (.int x :: st) := by
  obtain ⟨p, l', e, R', s, m, args, below, meth, c, D, A, nL', Q⟩ := g
  obtain ⟨hx, hb, hml, hown, hts, hK, hA, rfl, rfl, rfl, rfl⟩ := F
  intro H locs ls hP hD hS hl
  exact lv_lookup hx hb hd hp ho ht (kk H locs ls hP hD hS hl)
theorem k_get (F : kF g E l R cc own Ts nL) {pc : Nat} {ref C : String} {T : u_T} {N ci index a : Nat} {fs : List Value} {v : Value} (q0 k : Nat) (hd : decode cc pc = .ok (.getfield index, 3)) (hin : ∀ w ∈ u_ws C T N, w ∈ Ts) (he : ws[q0]? = some (a, .inr (ci, fs))) (hc : vwCl[ci]? = some (C, T, N)) (hk : k < N) (hlink : Cond.fieldLink own index ref (T k).2.1 (T k).2.2.1 ∈ Ts) (hsame : (T k).1 = ref) (hv : fs[k]? = some v) (kk : kK g ws lv ce sl (pc + 3) (v :: st)) : kK g ws lv ce sl pc (.ref a :: st) := by
  obtain ⟨p, l', e, R', s, m, args, below, meth, c, D, A, nL', Q⟩ := g
  obtain ⟨hx, hb, hml, hown, hts, hK, hA, rfl, rfl, rfl, rfl⟩ := F
  intro H locs ls hP hD hS hl
  subst hsame
  exact va_get hx hb hts hin hown hK hP q0 he hc k hk (hts _ hlink) (fun _ h => h) hv hd (kk H locs ls hP hD hS hl)
theorem k_put (F : kF g E l R cc own Ts nL) {pc : Nat} {ref C : String} {T : u_T} {N ci index a : Nat} {fs : List Value} {v : Value} {ty : FieldType} (ty0 : Nat → FieldType) (q0 k : Nat) (ws' : va_W) (hd : decode cc pc = .ok (.putfield index, 3)) (hin : ∀ w ∈ u_ws C T N, w ∈ Ts) (hty : ∀ k, k < N → parseFieldDescriptor (T k).2.2.1 = some (ty0 k)) (hnm : ∀ a, a < N → ∀ b, b < N → a ≠ b → (T a).2.1 ≠ (T b).2.1) (he : ws[q0]? = some (a, .inr (ci, fs))) (hc : vwCl[ci]? = some (C, T, N)) (hk : k < N) (hlink : Cond.fieldLink own index ref (T k).2.1 (T k).2.2.1 ∈ Ts) (hsame : (T k).1 = ref) (hfin : (T k).2.2.2 = false) (hdt : parseFieldDescriptor (T k).2.2.1 = some ty) (hn : narrow ty v = v) (hfit : fits ty v = true) (hlf : k < fs.length) (hws : ws.set q0 (a, .inr (ci, fs.set k v)) = ws') (kk : kK g ws' lv ce sl (pc + 3) st) : kK g ws lv ce sl pc (v :: .ref a :: st) := by
  obtain ⟨p, l', e, R', s, m, args, below, meth, c, D, A, nL', Q⟩ := g
  obtain ⟨hx, hb, hml, hown, hts, hK, hA, rfl, rfl, rfl, rfl⟩ := F
  intro H locs ls hP hD hS hl
  subst hsame; subst hws
  exact va_put hx hb hts hin ty0 hty hnm hown hK hP hD hS q0 he hc k hk (hts _ hlink) (fun _ h => h) hfin hdt hn hfit hlf hd (fun H1 l1 hP hD hS => kk H1 l1 ls hP hD hS hl)
theorem k_putF (F : kF g E l R cc own Ts nL) {ret : Option FieldType} {mc ms : Nat} {Pf : Option Value → va_W → Prop} (Rr : kRet g E "<init>" ret mc ms Pf) {pc : Nat} {ref C : String} {T : u_T} {N ci index a : Nat} {fs : List Value} {v : Value} {ty : FieldType} (ty0 : Nat → FieldType) (q0 k : Nat) (ws' : va_W) (hd : decode cc pc = .ok (.putfield index, 3)) (hin : ∀ w ∈ u_ws C T N, w ∈ Ts) (hty : ∀ k, k < N → parseFieldDescriptor (T k).2.2.1 = some (ty0 k)) (hnm : ∀ a, a < N → ∀ b, b < N → a ≠ b → (T a).2.1 ≠ (T b).2.1) (he : ws[q0]? = some (a, .inr (ci, fs))) (hc : vwCl[ci]? = some (C, T, N)) (hk : k < N) (hlink : Cond.fieldLink own index ref (T k).2.1 (T k).2.2.1 ∈ Ts) (hsame : (T k).1 = ref) (hfin : (T k).2.2.2 = true) (hdecl : (T k).1 = own) (hdt : parseFieldDescriptor (T k).2.2.1 = some ty) (hn : narrow ty v = v) (hfit : fits ty v = true) (hlf : k < fs.length) (hws : ws.set q0 (a, .inr (ci, fs.set k v)) = ws') (kk : kK g ws' lv ce sl (pc + 3) st) : kK g ws lv ce sl pc (v :: .ref a :: st) := by
  obtain ⟨p, l', e, R', s, m, args, below, meth, c, D, A, nL', Q⟩ := g
  obtain ⟨hx, hb, hml, hown, hts, hK, hA, rfl, rfl, rfl, rfl⟩ := F
  intro H locs ls hP hD hS hl
  subst hsame; subst hws
  obtain ⟨hr1, hr2, hr3, hr4⟩ := Rr
  exact va_putF hx hb hts hin ty0 hty hnm hown hK hP hD hS q0 he hc k hk (hts _ hlink) (fun _ h => h) hfin hr3 hdecl hdt hn hfit hlf hd (fun H1 l1 hP hD hS => kk H1 l1 ls hP hD hS hl)
theorem k_iald (F : kF g E l R cc own Ts nL) {pc : Nat} {a n i : Nat} {f : Nat → Int32} (q0 : Nat) (hd : decode cc pc = .ok (.iaload, 1)) (he : ws[q0]? = some (cInt E a n f)) (hi : i < n) (hn : n < 2 ^ 31) (kk : kK g ws lv ce sl (pc + 1) (.int (f i) :: st)) : kK g ws lv ce sl pc (.int (nI i) :: .ref a :: st) := by
  obtain ⟨p, l', e, R', s, m, args, below, meth, c, D, A, nL', Q⟩ := g
  obtain ⟨hx, hb, hml, hown, hts, hK, hA, rfl, rfl, rfl, rfl⟩ := F
  intro H locs ls hP hD hS hl
  exact va_iald hx hb hK hP q0 0 he rfl (vp_in_nI hi hn) hd (by rw [nI_clamp (Nat.lt_trans hi hn)]; exact (kk H locs ls hP hD hS hl))
theorem k_lald (F : kF g E l R cc own Ts nL) {pc : Nat} {a n i : Nat} {f : Nat → Int64} (q0 : Nat) (hd : decode cc pc = .ok (.laload, 1)) (he : ws[q0]? = some (cLng E a n f)) (hi : i < n) (hn : n < 2 ^ 31) (kk : kK g ws lv ce sl (pc + 1) (.long (f i) :: st)) : kK g ws lv ce sl pc (.int (nI i) :: .ref a :: st) := by
  obtain ⟨p, l', e, R', s, m, args, below, meth, c, D, A, nL', Q⟩ := g
  obtain ⟨hx, hb, hml, hown, hts, hK, hA, rfl, rfl, rfl, rfl⟩ := F
  intro H locs ls hP hD hS hl
  exact va_lald hx hb hK hP q0 1 he rfl (vp_in_nI hi hn) hd (by rw [nI_clamp (Nat.lt_trans hi hn)]; exact (kk H locs ls hP hD hS hl))
theorem k_zald (F : kF g E l R cc own Ts nL) {pc : Nat} {a n i : Nat} {f : Nat → Bool} (q0 : Nat) (hd : decode cc pc = .ok (.baload, 1)) (he : ws[q0]? = some (cBoo E a n f)) (hi : i < n) (hn : n < 2 ^ 31) (kk : kK g ws lv ce sl (pc + 1) (.int (bI (f i)) :: st)) : kK g ws lv ce sl pc (.int (nI i) :: .ref a :: st) := by
  obtain ⟨p, l', e, R', s, m, args, below, meth, c, D, A, nL', Q⟩ := g
  obtain ⟨hx, hb, hml, hown, hts, hK, hA, rfl, rfl, rfl, rfl⟩ := F
  intro H locs ls hP hD hS hl
  refine va_zald hx hb hK hP q0 2 he rfl (vp_in_nI hi hn) hd ?_
  rw [nI_clamp (Nat.lt_trans hi hn)]
  exact (kk H locs ls hP hD hS hl)
theorem k_iast (F : kF g E l R cc own Ts nL) {pc : Nat} {a n i : Nat} {f : Nat → Int32} {x : Int32} (q0 : Nat) (ws' : (Nat → Int32) → va_W) (hd : decode cc pc = .ok (.iastore, 1)) (he : ws[q0]? = some (cInt E a n f)) (hi : i < n) (hn : n < 2 ^ 31) (hws : ∀ f', ws.set q0 (cInt E a n f') = ws' f') (kk : ∀ f', f' = upd f i x → kK g (ws' f') lv ce sl (pc + 1) st) : kK g ws lv ce sl pc (.int x :: .int (nI i) :: .ref a :: st) := by
  obtain ⟨p, l', e, R', s, m, args, below, meth, c, D, A, nL', Q⟩ := g
  obtain ⟨hx, hb, hml, hown, hts, hK, hA, rfl, rfl, rfl, rfl⟩ := F
  intro H locs ls hP hD hS hl
  refine va_iast hx hb hK hP hD hS q0 0 he rfl (vp_in_nI hi hn) hd ?_
  rw [nI_clamp (Nat.lt_trans hi hn)]
  have hw := hws (upd f i x)
  intro H1 l1 hP1 hD1 hS1
  exact kk _ rfl H1 l1 ls (hw ▸ hP1) (hw ▸ hD1) hS1 hl
theorem k_last (F : kF g E l R cc own Ts nL) {pc : Nat} {a n i : Nat} {f : Nat → Int64} {x : Int64} (q0 : Nat) (ws' : (Nat → Int64) → va_W) (hd : decode cc pc = .ok (.lastore, 1)) (he : ws[q0]? = some (cLng E a n f)) (hi : i < n) (hn : n < 2 ^ 31) (hws : ∀ f', ws.set q0 (cLng E a n f') = ws' f') (kk : ∀ f', f' = vp_updL f i x → kK g (ws' f') lv ce sl (pc + 1) st) : kK g ws lv ce sl pc (.long x :: .int (nI i) :: .ref a :: st) := by
  obtain ⟨p, l', e, R', s, m, args, below, meth, c, D, A, nL', Q⟩ := g
  obtain ⟨hx, hb, hml, hown, hts, hK, hA, rfl, rfl, rfl, rfl⟩ := F
  intro H locs ls hP hD hS hl
  refine va_last hx hb hK hP hD hS q0 1 he rfl (vp_in_nI hi hn) hd ?_
  rw [nI_clamp (Nat.lt_trans hi hn)]
  have hw := hws (vp_updL f i x)
  intro H1 l1 hP1 hD1 hS1
  exact kk _ rfl H1 l1 ls (hw ▸ hP1) (hw ▸ hD1) hS1 hl
theorem k_upB (f : Nat → Bool) (k : Nat) (b : Bool) : upd (fun j => bI (f j)) k (vp_nar .boolean (bI b)) = fun j => bI (upB f k b j) := by
  have e : vp_nar .boolean (bI b) = bI b := by cases b <;> decide
  rw [e]
  funext j
  by_cases h : j = k <;> simp [upd, upB, h]
theorem k_zast (F : kF g E l R cc own Ts nL) {pc : Nat} {a n i : Nat} {f : Nat → Bool} {x : Int32} (b : Bool) (q0 : Nat) (ws' : (Nat → Bool) → va_W) (hd : decode cc pc = .ok (.bastore, 1)) (hxb : x = bI b) (he : ws[q0]? = some (cBoo E a n f)) (hi : i < n) (hn : n < 2 ^ 31) (hws : ∀ f', ws.set q0 (cBoo E a n f') = ws' f') (kk : ∀ f', f' = upB f i b → kK g (ws' f') lv ce sl (pc + 1) st) : kK g ws lv ce sl pc (.int x :: .int (nI i) :: .ref a :: st) := by
  obtain ⟨p, l', e, R', s, m, args, below, meth, c, D, A, nL', Q⟩ := g
  obtain ⟨hx, hb, hml, hown, hts, hK, hA, rfl, rfl, rfl, rfl⟩ := F
  intro H locs ls hP hD hS hl
  subst hxb
  refine va_zast hx hb hK hP hD hS q0 2 he rfl (vp_in_nI hi hn) hd ?_
  rw [nI_clamp (Nat.lt_trans hi hn), k_upB]
  have hw := hws (upB f i b)
  intro H1 l1 hP1 hD1 hS1
  exact kk _ rfl H1 l1 ls (hw ▸ hP1) (hw ▸ hD1) hS1 hl
theorem k_topi {pc : Nat} {x : Int32} (y : Int32) (h : x = y) (kk : kK g ws lv ce sl pc (.int y :: st)) : kK g ws lv ce sl pc (.int x :: st) := h ▸ kk
theorem k_topl {pc : Nat} {x : Int64} (y : Int64) (h : x = y) (kk : kK g ws lv ce sl pc (.long y :: st)) : kK g ws lv ce sl pc (.long x :: st) := h ▸ kk
theorem k_perm {pc : Nat} (ws' : va_W) (is : List Nat) (hn : va_nd is = true) (hs : is.map (fun i => ws[i]?) = ws'.map some) (kk : kK g ws' lv ce sl pc st) : kK g ws lv ce sl pc st := by
  obtain ⟨p, l', e, R', s, m, args, below, meth, c, D, A, nL', Q⟩ := g
  intro H locs ls hP hD hS hl
  exact kk H locs ls (hP.sub is (k_fm hs)) (hD.sub is hn hs) hS hl
theorem k_lv {pc : Nat} (lv' : List (Nat × Value)) (is : List Nat) (hs : lv_pick lv is = lv') (kk : kK g ws lv' ce sl pc st) : kK g ws lv ce sl pc st := by
  obtain ⟨p, l', e, R', s, m, args, below, meth, c, D, A, nL', Q⟩ := g
  intro H locs ls hP hD hS hl
  exact kk H locs ls hP hD hS (lv_sub hl is hs)
theorem k_wide {pc : Nat} (ce' sl' : Nat) (h1 : ce ≤ ce') (h2 : sl ≤ sl') (kk : kK g ws lv ce' sl' pc st) : kK g ws lv ce sl pc st := by
  obtain ⟨p, l', e, R', s, m, args, below, meth, c, D, A, nL', Q⟩ := g
  intro H locs ls hP hD hS hl
  exact W.widen h1 h2 (kk H locs ls hP hD hS hl)
theorem k_iret (F : kF g E l R cc own Ts nL) {mc ms : Nat} {Pf : Option Value → va_W → Prop} {nm : String} (Rr : kRet g E nm (some .int) mc ms Pf) {pc : Nat} {v : Int32} (hd : decode cc pc = .ok (.ireturn, 1)) (hp : Pf (some (.int v)) ws) : kK g ws lv mc ms pc [.int v] := by
  obtain ⟨p, l', e, R', s, m, args, below, meth, c, D, A, nL', Q⟩ := g
  obtain ⟨hx, hb, hml, hown, hts, hK, hA, rfl, rfl, rfl, rfl⟩ := F
  obtain ⟨hr, hlocks, -, rfl⟩ := Rr
  intro H locs ls hP hD hS hl
  exact W.iret hx hb hr (fun t ht hW => ⟨⟨_, ws, rfl, hp, by rw [ht]; exact hP, va_K.moved hW.alike hK, hD⟩, hS.F ht⟩) hS.2.2 hd
theorem k_lret (F : kF g E l R cc own Ts nL) {mc ms : Nat} {Pf : Option Value → va_W → Prop} {nm : String} (Rr : kRet g E nm (some .long) mc ms Pf) {pc : Nat} {v : Int64} (hd : decode cc pc = .ok (.lreturn, 1)) (hp : Pf (some (.long v)) ws) : kK g ws lv mc ms pc [.long v] := by
  obtain ⟨p, l', e, R', s, m, args, below, meth, c, D, A, nL', Q⟩ := g
  obtain ⟨hx, hb, hml, hown, hts, hK, hA, rfl, rfl, rfl, rfl⟩ := F
  obtain ⟨hr, hlocks, -, rfl⟩ := Rr
  intro H locs ls hP hD hS hl
  exact W.lret hx hb hr (fun t ht hW => ⟨⟨_, ws, rfl, hp, by rw [ht]; exact hP, va_K.moved hW.alike hK, hD⟩, hS.F ht⟩) hS.2.2 hd
theorem k_vret (F : kF g E l R cc own Ts nL) {mc ms : Nat} {Pf : Option Value → va_W → Prop} {nm : String} (Rr : kRet g E nm none mc ms Pf) {pc : Nat} (hd : decode cc pc = .ok (.return_, 1)) (hp : Pf none ws) : kK g ws lv mc ms pc [] := by
  obtain ⟨p, l', e, R', s, m, args, below, meth, c, D, A, nL', Q⟩ := g
  obtain ⟨hx, hb, hml, hown, hts, hK, hA, rfl, rfl, rfl, rfl⟩ := F
  obtain ⟨hr, hlocks, -, rfl⟩ := Rr
  intro H locs ls hP hD hS hl
  exact W.vret hx hb hr (fun t ht hW => ⟨⟨_, ws, rfl, hp, by rw [ht]; exact hP, va_K.moved hW.alike hK, hD⟩, hS.F ht⟩) hS.2.2 hd
theorem k_zret (F : kF g E l R cc own Ts nL) {mc ms : Nat} {Pf : Option Value → va_W → Prop} {nm : String} (Rr : kRet g E nm (some .boolean) mc ms Pf) {pc : Nat} {x : Int32} (b : Bool) (hd : decode cc pc = .ok (.ireturn, 1)) (hxb : x = bI b) (hp : Pf (some (.int (bI b))) ws) : kK g ws lv mc ms pc [.int x] := by
  obtain ⟨p, l', e, R', s, m, args, below, meth, c, D, A, nL', Q⟩ := g
  obtain ⟨hx, hb, hml, hown, hts, hK, hA, rfl, rfl, rfl, rfl⟩ := F
  obtain ⟨hr, hlocks, -, rfl⟩ := Rr
  intro H locs ls hP hD hS hl
  subst hxb
  exact W.zret hx hb hr (by cases b <;> decide) (fun t ht hW => ⟨⟨_, ws, rfl, hp, by rw [ht]; exact hP, va_K.moved hW.alike hK, hD⟩, hS.F ht⟩) hS.2.2 hd
theorem k_run {p : Program} {e : Env} {s : State} {m : MethodId} {args : Array Value} {below : List Frame} {meth : Method} {c : Code} {A : Nat → Prop} {Q : State → Prop} {H : Heap} {locs : List Loc} {ls : Array Slot} {pc mc ms : Nat} {st0 rest : List Value} {w0 wr : va_W} {Pf : Option Value → va_W → Prop} {a : Array Value}
    (hr : va_Run p l e R s m args below meth c H locs ce sl mc ms (F0 m pc ls st0) rest (kQ E (va_A w0 H.size) Pf a) (va_A w0 H.size)) (hP : va_P E.1 vwCl ws H) (hD : va_D A ws) (hS : va_S A s.heap H locs) (hA : ∀ q, s.heap.size ≤ q → A q) (hl : lv_has ls nL lv)
    (isC isR : List Nat) (hC : isC.map (fun i => ws[i]?) = w0.map some) (hRr : isR.map (fun i => ws[i]?) = wr.map some) (hn : va_nd isR = true) (hdis : ∀ i ∈ isR, i ∉ isC)
    (kk : ∀ (v : Option Value) (w1 : va_W), Pf v w1 → kK (p, l, e, R, s, m, args, below, meth, c, E.1, A, nL, Q) (wr ++ w1) lv (ce + mc) (sl + ms) (pc + 3) (v.toList ++ rest)) : W p l e R s m args below meth c H locs ce sl Q (F0 m pc ls st0) := by
  intro T hT X
  obtain ⟨v, st₀, t, T', L, h0, X', hL, e1, e2, ⟨⟨v2, w1, hv, hp, hP1, hK1, hD1⟩, hz, hk⟩, st⟩ := hr T hT X
  cases hv
  rw [h0] at hz hk
  have hF := va_free hD hS hA isC hC
  rw [← e1] at hz hP1
  have hk' : ∀ q : Nat, q < H.size → ¬ va_A w0 H.size q → T'.heap[q]? = H[q]? := fun q h1 h2 => by rw [e1]; exact hk q h1 h2
  obtain ⟨hP2, hD2⟩ := va_join hP hD isC isR hC hRr hn hdis hk' hF hP1 hD1
  obtain ⟨t2, a1, b1⟩ := kk v w1 hp T'.heap (locs ++ L) ls hP2 hD2
    ⟨Nat.le_trans hS.1 hz, fun q h1 h2 => by rw [hk' q (Nat.lt_of_lt_of_le h1 hS.1) (fun z => h2 (hF q z))]; exact hS.2.1 q h1 h2, fun q hq => by
      rcases List.mem_append.mp hq with h | h
      · exact hS.2.2 q h
      · exact hF _ (hL q h)⟩ hl T' rfl X'
  exact ⟨t2, st t2 a1, b1⟩
theorem k_pc {av : List Value} {sz : Nat} {w0 : va_W} : FrameBlind (va_Pc av (fun U => U.heap.size = sz ∧ va_P E.1 vwCl w0 U.heap ∧ va_K E.1 vwCl (kTy E) U ∧ va_D (fun _ => True) w0)) := fun a U g mk q => by
  obtain ⟨q0, q1, qP, qK, qD⟩ := q
  exact ⟨q0, q1, qP, va_K.moved (u := U) (U := U.calling g mk a) (Vm.Alike.refl U.vm) qK, qD⟩
theorem k_callV (F : kF g E l R cc own Ts nL) {pc : Nat} {y : MethodName} {wsC ws'' : List Cond} {rm : Room} {b index maxL ci mc ms : Nat} {C : String} {T : u_T} {N : Nat} {bytes : ByteArray} {ret : Option FieldType} {fs : List Value} {Pf : Option Value → va_W → Prop} (As rest : List Value) (n : Nat) (w0 wr : va_W) (isC isR : List Nat) (hM : kC l y wsC rm E (.ref b :: As) w0 mc ms Pf) (hd : decode cc pc = .ok (.invokevirtual index, 3)) (hG : GoodIn Ts (wsV own index C y wsC)) (hw : wsC = Cond.code y bytes maxL ret :: ws'') (hy : y.cls = C ∧ y.cls ≠ "java/lang/invoke/MethodHandle" ∧ y.cls ≠ "java/lang/invoke/VarHandle" ∧ (parseMethodDescriptor y.desc).map (fun d => d.parameters.length) = some n) (hAs : As.length = n) (hrm : rm.cells = mc ∧ rm.slots = ms) (hR : rm.frames + 1 ≤ R.frames ∧ 8 + (maxL + 11) + rm.locals ≤ R.locals) (hst : st = As.reverse ++ .ref b :: rest) (hro : (rest.map fun v => v.category).sum ≤ 8) (hcs : ce + mc ≤ R.cells ∧ sl + ms ≤ R.slots) (hrec : w0[0]? = some (b, .inr (ci, fs))) (hcl : vwCl[ci]? = some (C, T, N)) (hC : isC.map (fun i => ws[i]?) = w0.map some) (hRr : isR.map (fun i => ws[i]?) = wr.map some) (hnC : va_nd isC = true) (hn : va_nd isR = true) (hdis : ∀ i ∈ isR, i ∉ isC)
    (kk : ∀ (v : Option Value) (w1 : va_W), Pf v w1 → kK g (wr ++ w1) lv (ce + mc) (sl + ms) (pc + 3) (v.toList ++ rest)) : kK g ws lv ce sl pc st := by
  obtain ⟨p, l', e, R', s, m, args, below, meth, c, D, A, nL', Q⟩ := g
  obtain ⟨hx, hb, hml, hown, hts, hK, hA, rfl, rfl, rfl, rfl⟩ := F
  intro H locs ls hP hD hS hl
  subst hst; subst hAs
  have hPc := hP.sub isC (k_fm hC)
  have hDc := hD1 hnC hD hC
  exact k_run (va_runV (As := As) (rest := rest) ⟨hx, hb, hml, hown, hts⟩ (hM H.size) (cwV As.length hts hG hw hrm.1 hrm.2 hy hR) ⟨k_pc, va_recv hK hPc hcl hrec, fun U hU hW => ⟨rfl, by rw [hU], by rw [hU]; exact hPc, va_K.moved hW.alike hK, hDc⟩⟩ rfl rfl hl.1 rfl (lv_room hro) hd hcs) hP hD hS hA hl isC isR hC hRr hn hdis kk

theorem k_callS (F : kF g E l R cc own Ts nL) {pc : Nat} {y : MethodName} {wsC ws'' : List Cond} {rm : Room} {index maxL mc ms : Nat} {bytes : ByteArray} {ret : Option FieldType} {Pv : Option Value → Prop} (As rest : List Value) (n : Nat) (hM : kC l y wsC rm E As [] mc ms (fun v w1 => w1 = [] ∧ Pv v)) (hd : decode cc pc = .ok (.invokestatic index, 3)) (hG : GoodIn Ts (va_wsS own index y wsC)) (hw : wsC = Cond.code y bytes maxL ret :: ws'') (hy : y.cls ≠ "java/lang/invoke/MethodHandle" ∧ y.cls ≠ "java/lang/invoke/VarHandle" ∧ (parseMethodDescriptor y.desc).map (fun d => d.parameters.length) = some n) (hAs : As.length = n) (hrm : rm.cells = mc ∧ rm.slots = ms) (hR : rm.frames + 1 ≤ R.frames ∧ 8 + (maxL + 11) + rm.locals ≤ R.locals) (hst : st = As.reverse ++ rest) (hro : (rest.map fun v => v.category).sum ≤ 8) (hcs : ce + mc ≤ R.cells ∧ sl + ms ≤ R.slots)
    (kk : ∀ (v : Option Value), Pv v → kK g ws lv (ce + mc) (sl + ms) (pc + 3) (v.toList ++ rest)) : kK g ws lv ce sl pc st := by
  obtain ⟨p, l', e, R', s, m, args, below, meth, c, D, A, nL', Q⟩ := g
  obtain ⟨hx, hb, hml, hown, hts, hK, hA, rfl, rfl, rfl, rfl⟩ := F
  intro H locs ls hP hD hS hl
  subst hst; subst hAs
  have hD0 : va_D (fun _ => True) [] := ⟨fun i j p q h => by simp at h, fun k q h => by simp at h⟩
  have hP0 : va_P E.1 vwCl [] H := fun k q h => by simp at h
  have hr := va_runS (p := p) (e := e) (below := below) (meth := meth) (locs := locs) (cells := ce) (slots := sl) (g := F0 m pc ls (As.reverse ++ rest)) (As := As) (rest := rest) ⟨hx, hb, hml, hown, hts⟩ (hM H.size) (va_cwS As.length hts hG hw hrm.1 hrm.2 hy hR) ⟨k_pc, fun U hU hW => ⟨rfl, by rw [hU], by rw [hU]; exact hP0, va_K.moved hW.alike hK, hD0⟩⟩ rfl rfl hl.1 rfl (lv_room hro) hd hcs
  intro T hT X
  obtain ⟨v, st₀, t, T', L, h0, X', hL, e1, e2, ⟨⟨v2, w1, hv, ⟨hp0, hp⟩, hP1, hK1, hD1⟩, hz, hk⟩, st⟩ := hr T hT X
  cases hv
  rw [h0] at hz hk
  have hF : ∀ q, va_A [] H.size q → A q := fun q h => by
    rcases h with ⟨k, e, h⟩ | h
    · simp at h
    · exact hA q (Nat.le_trans hS.1 h)
  rw [← e1] at hz
  have hk' : ∀ q : Nat, q < H.size → T'.heap[q]? = H[q]? := fun q h1 => by
    rw [e1]
    refine hk q h1 (fun h => ?_)
    rcases h with ⟨k, e, h⟩ | h
    · simp at h
    · omega
  obtain ⟨t2, a1, b1⟩ := kk v hp T'.heap (locs ++ L) ls (hP.kept (fun k q hq => hk' q.1 (hP k q hq).lt)) hD
    ⟨Nat.le_trans hS.1 hz, fun q h1 h2 => by rw [hk' q (Nat.lt_of_lt_of_le h1 hS.1)]; exact hS.2.1 q h1 h2, fun q hq => by
      rcases List.mem_append.mp hq with h | h
      · exact hS.2.2 q h
      · exact hF _ (hL q h)⟩ hl T' rfl X'
  exact ⟨t2, st t2 a1, b1⟩
theorem k_mmax (F : kF g E l R cc own Ts nL) {pc index : Nat} {x y : Int64} (hd : decode cc pc = .ok (.invokestatic index, 3)) (h1 : Cond.methodLink own index Lib.MathLoose.max_long.x ∈ Ts) (h2 : Cond.static Lib.MathLoose.max_long.x ∈ Ts) (h3 : Cond.initialized "java/lang/Math" ∈ Ts) (h4 : Cond.code Lib.MathLoose.max_long.x Lib.MathLoose.max_long.code 4 (some .long) ∈ Ts) (hfr : 1 ≤ R.frames) (hlo : (st.map fun v => v.category).sum + 15 ≤ R.locals) (hc : ce ≤ R.cells) (hs : sl ≤ R.slots) (kk : kK g ws lv ce sl (pc + 3) (.long (if y < x then x else y) :: st)) : kK g ws lv ce sl pc (.long y :: .long x :: st) := by
  obtain ⟨p, l', e, R', s, m, args, below, meth, c, D, A, nL', Q⟩ := g
  obtain ⟨hx, hb, hml, hown, hts, hK, hA, rfl, rfl, rfl, rfl⟩ := F
  intro H locs ls hP hD hS hl
  exact va_mmax_long hx hb (hml.trans hl.1.symm) hown (hts _ h1) (hts _ h2) (hts _ h3) (hts _ h4) hfr hlo hc hs hd (kk H locs ls hP hD hS hl)
theorem k_mmin (F : kF g E l R cc own Ts nL) {pc index : Nat} {x y : Int64} (hd : decode cc pc = .ok (.invokestatic index, 3)) (h1 : Cond.methodLink own index Lib.MathLoose.min_long.x ∈ Ts) (h2 : Cond.static Lib.MathLoose.min_long.x ∈ Ts) (h3 : Cond.initialized "java/lang/Math" ∈ Ts) (h4 : Cond.code Lib.MathLoose.min_long.x Lib.MathLoose.min_long.code 4 (some .long) ∈ Ts) (hfr : 1 ≤ R.frames) (hlo : (st.map fun v => v.category).sum + 15 ≤ R.locals) (hc : ce ≤ R.cells) (hs : sl ≤ R.slots) (kk : kK g ws lv ce sl (pc + 3) (.long (if y < x then y else x) :: st)) : kK g ws lv ce sl pc (.long y :: .long x :: st) := by
  obtain ⟨p, l', e, R', s, m, args, below, meth, c, D, A, nL', Q⟩ := g
  obtain ⟨hx, hb, hml, hown, hts, hK, hA, rfl, rfl, rfl, rfl⟩ := F
  intro H locs ls hP hD hS hl
  exact va_mmin_long hx hb (hml.trans hl.1.symm) hown (hts _ h1) (hts _ h2) (hts _ h3) (hts _ h4) hfr hlo hc hs hd (kk H locs ls hP hD hS hl)
end KL
