section KN
variable {g : kG} {E : kE} {l : Launch} {R : Room} {cc : ByteArray} {own : String} {Ts : List Cond} {nL : Nat} {ws : va_W} {lv : List (Nat × Value)} {ce sl : Nat} {st : List Value}
theorem k_newI (F : kF g E l R cc own Ts nL) {pc N : Nat} (hd : decode cc pc = .ok (.newarray .int, 2)) (harr : Cond.arrayClass .int ∈ Ts) (hN : N < 1000) (hc : ce + 1 ≤ R.cells) (hs : sl + N ≤ R.slots) (kk : ∀ q : Nat, kK g (ws ++ [cInt E q N (fun _ => 0)]) lv (ce + 1) (sl + N) (pc + 2) (.ref q :: st)) : kK g ws lv ce sl pc (.int (nI N) :: st) := by
  obtain ⟨p, l', e, R', s, m, args, below, meth, c, D, A, nL', Q⟩ := g
  obtain ⟨hx, hb, hml, hown, hts, hK, hA, rfl, rfl, rfl, rfl⟩ := F
  intro H locs ls hP hD hS hl
  refine va_newa (atype := .int) (ty := .int) (N' := N) (a0 := (N, .inl (fun _ => 0))) hx hb (hts _ harr) rfl hK hP hD hS hA (fun cA => rfl) (nI_pos (by omega)) (nI_clamp (by omega)) (by simp only [componentBytes]; omega) hc hs hd (fun q cA H1 hK1 hP1 hD1 hS1 => ?_)
  have e1 : s.vm.findClass ("[" ++ FieldType.toString .int) = some cA := (hK1.2 3 (cA, .int) rfl).2
  have e2 : s.vm.findClass ("[" ++ FieldType.toString .int) = some E.2.1 := (hK.2 0 (E.2.1, .int) rfl).2
  have e3 : cA = E.2.1 := Option.some.inj (e1.symm.trans e2)
  subst e3
  exact kk q H1 locs ls hP1 hD1 hS1 hl
theorem k_newJ (F : kF g E l R cc own Ts nL) {pc N : Nat} (hd : decode cc pc = .ok (.newarray .long, 2)) (harr : Cond.arrayClass .long ∈ Ts) (hN : N < 1000) (hc : ce + 1 ≤ R.cells) (hs : sl + N ≤ R.slots) (kk : ∀ q : Nat, kK g (ws ++ [cLng E q N (fun _ => 0)]) lv (ce + 1) (sl + N) (pc + 2) (.ref q :: st)) : kK g ws lv ce sl pc (.int (nI N) :: st) := by
  obtain ⟨p, l', e, R', s, m, args, below, meth, c, D, A, nL', Q⟩ := g
  obtain ⟨hx, hb, hml, hown, hts, hK, hA, rfl, rfl, rfl, rfl⟩ := F
  intro H locs ls hP hD hS hl
  refine va_newa (atype := .long) (ty := .long) (N' := N) (a0 := (N, .inr (.inl (fun _ => 0)))) hx hb (hts _ harr) rfl hK hP hD hS hA (fun cA => rfl) (nI_pos (by omega)) (nI_clamp (by omega)) (by simp only [componentBytes]; omega) hc hs hd (fun q cA H1 hK1 hP1 hD1 hS1 => ?_)
  have e1 : s.vm.findClass ("[" ++ FieldType.toString .long) = some cA := (hK1.2 3 (cA, .long) rfl).2
  have e2 : s.vm.findClass ("[" ++ FieldType.toString .long) = some E.2.2.1 := (hK.2 1 (E.2.2.1, .long) rfl).2
  have e3 : cA = E.2.2.1 := Option.some.inj (e1.symm.trans e2)
  subst e3
  exact kk q H1 locs ls hP1 hD1 hS1 hl
theorem k_newZ (F : kF g E l R cc own Ts nL) {pc N : Nat} (hd : decode cc pc = .ok (.newarray .boolean, 2)) (harr : Cond.arrayClass .boolean ∈ Ts) (hN : N < 1000) (hc : ce + 1 ≤ R.cells) (hs : sl + N ≤ R.slots) (kk : ∀ q : Nat, kK g (ws ++ [cBoo E q N (fun _ => false)]) lv (ce + 1) (sl + N) (pc + 2) (.ref q :: st)) : kK g ws lv ce sl pc (.int (nI N) :: st) := by
  obtain ⟨p, l', e, R', s, m, args, below, meth, c, D, A, nL', Q⟩ := g
  obtain ⟨hx, hb, hml, hown, hts, hK, hA, rfl, rfl, rfl, rfl⟩ := F
  intro H locs ls hP hD hS hl
  refine va_newa (atype := .boolean) (ty := .boolean) (N' := N) (a0 := (N, .inl (fun _ => 0))) hx hb (hts _ harr) rfl hK hP hD hS hA (fun cA => rfl) (nI_pos (by omega)) (nI_clamp (by omega)) (by simp only [componentBytes]; omega) hc hs hd (fun q cA H1 hK1 hP1 hD1 hS1 => ?_)
  have e1 : s.vm.findClass ("[" ++ FieldType.toString .boolean) = some cA := (hK1.2 3 (cA, .boolean) rfl).2
  have e2 : s.vm.findClass ("[" ++ FieldType.toString .boolean) = some E.2.2.2 := (hK.2 2 (E.2.2.2, .boolean) rfl).2
  have e3 : cA = E.2.2.2 := Option.some.inj (e1.symm.trans e2)
  subst e3
  exact kk q H1 locs ls hP1 hD1 hS1 hl
theorem k_objInit (F : kF g E l R cc own Ts nL) {pc idx a : Nat} (hd : decode cc pc = .ok (.invokespecial idx, 3)) (h1 : Cond.methodLink own idx Lib.objectInit ∈ Ts) (h2 : Cond.instanceMethod Lib.objectInit ∈ Ts) (h3 : Cond.code Lib.objectInit ⟨#[0xb1]⟩ 1 none ∈ Ts) (hfr : 1 ≤ R.frames) (hlo : (st.map fun v => v.category).sum + 12 ≤ R.locals) (kk : kK g ws lv ce sl (pc + 3) st) : kK g ws lv ce sl pc (.ref a :: st) := by
  obtain ⟨p, l', e, R', s, m, args, below, meth, c, D, A, nL', Q⟩ := g
  obtain ⟨hx, hb, hml, hown, hts, hK, hA, rfl, rfl, rfl, rfl⟩ := F
  intro H locs ls hP hD hS hl
  exact W.objInit (g := F0 m pc ls (.ref a :: st)) hx hb hown (hts _ h1) (hts _ h2) (hts _ h3) rfl (hl.1.trans hml.symm) rfl hd hfr (by show 2 * 0 + _ + 12 ≤ _; omega) (kk H locs ls hP hD hS hl)
theorem k_new (F : kF g E l R cc own Ts nL) {pc index N ci : Nat} {C : String} {T : u_T} (fs : List Value) (ty : Nat → FieldType) (hd : decode cc pc = .ok (.new index, 3)) (hin : ∀ w ∈ u_ws C T N, w ∈ Ts) (hty : ∀ k, k < N → parseFieldDescriptor (T k).2.2.1 = some (ty k)) (h1 : Cond.classLink own index C ∈ Ts) (h2 : Cond.instantiable C N ∈ Ts) (h3 : Cond.initialized C ∈ Ts) (hcl : vwCl[ci]? = some (C, T, N)) (hfs : ∀ j, j < N → defaultValue (ty j) = vp_V fs j) (hc : ce + 1 ≤ R.cells) (hs : sl + N ≤ R.slots) (kk : ∀ q : Nat, kK g (ws ++ [cObj q ci fs]) lv (ce + 1) (sl + N) (pc + 3) (.ref q :: st)) : kK g ws lv ce sl pc st := by
  obtain ⟨p, l', e, R', s, m, args, below, meth, c, D, A, nL', Q⟩ := g
  obtain ⟨hx, hb, hml, hown, hts, hK, hA, rfl, rfl, rfl, rfl⟩ := F
  intro H locs ls hP hD hS hl
  exact va_new hx hb hts hin ty hty hown (hts _ h1) (hts _ h2) (hts _ h3) hK hP hD hS hA hcl hfs hc hs hd (fun q H1 hP1 hD1 hS1 => kk q H1 locs ls hP1 hD1 hS1 hl)
def kZ (U : State) : Prop := va_Nw (.methodLinkNest RX3 26 yX2_init RX3) U ∧ va_Nw (.methodLinkNest RX3 36 yX0_init RX3) U ∧ va_Nw (.methodLinkNest RX3 43 yX1_init RX3) U
def kZg (g : kG) : Prop := match g with
  | (_, _, _, _, s, _, _, _, _, _, _, _, _, _) => kZ s
def kNg (g : kG) (w : Cond) : Prop := match g with
  | (_, _, _, _, s, _, _, _, _, _, _, _, _, _) => va_Nw w s
def kCZ (l : Launch) (y : MethodName) (ws : List Cond) (rm : Room) (E : kE) (argv : List Value) (w0 : va_W) (mc ms : Nat) (Pf : Option Value → va_W → Prop) : Prop := ∀ sz : Nat, Met l y ws rm (va_Pc argv (fun U => U.heap.size = sz ∧ va_P E.1 vwCl w0 U.heap ∧ va_K E.1 vwCl (kTy E) U ∧ va_D (fun _ => True) w0 ∧ kZ U)) (kQ E (va_A w0 sz) Pf) mc ms (va_A w0 sz)
theorem kCZ.enter {l : Launch} {y : MethodName} {ws ws' : List Cond} {rm : Room} {E : kE} {argv : List Value} {w0 : va_W} {mc ms : Nat} {Pf : Option Value → va_W → Prop} (cc : ByteArray) (maxL : Nat) (ret : Option FieldType) (lv : List (Nat × Value)) (hy : plainName y.cls = true) (hw : ws = Cond.code y cc maxL ret :: ws') (hlen : (lg_sl argv).length ≤ maxL) (hlv : lv_args 0 argv = lv)
    (body : ∀ g : kG, kF g E l rm cc y.cls ws maxL → kRet g E y.name ret mc ms Pf → kZg g → kK g w0 lv 0 0 0 []) : kCZ l y ws rm E argv w0 mc ms Pf := by
  intro sz
  refine Met.ofW (cc := cc) (maxL := maxL) (ret := ret) hy hw ?_
  intro p e s m args below meth c s₁ B hml hv
  obtain ⟨rfl, hsz, hP, hK, hD0, hz⟩ := hv
  have hts := atoms_spec (ws := ws) B.pre
  have hown : s.vm.findClass y.cls = some m.cls := findClass_of_methodNamed B.named
  have hin : meth.name = y.name := (name_of_methodNamed B.named B.method).1
  subst hsz
  subst hlv
  have hl := lv_entry argv (n := maxL) hlen
  rw [lg_entry_eq]
  refine body (p, l, e, rm, s, m, argv.toArray, below, meth, c, E.1, va_A w0 s.heap.size, maxL, MQ below (kQ E (va_A w0 s.heap.size) Pf) argv.toArray s mc ms (va_A w0 s.heap.size)) ⟨B.exec, B.bytes, hml, hown, hts, hK, fun q h => Or.inr h, rfl, rfl, rfl, rfl⟩ ⟨B.returns, B.notSynchronized, hin, rfl⟩ hz s.heap [] _ hP hD0.self va_S.rf hl
theorem k_pcZ {av : List Value} {sz : Nat} {w0 : va_W} : FrameBlind (va_Pc av (fun U => U.heap.size = sz ∧ va_P E.1 vwCl w0 U.heap ∧ va_K E.1 vwCl (kTy E) U ∧ va_D (fun _ => True) w0 ∧ kZ U)) := fun a U g mk q => by
  obtain ⟨q0, q1, qP, qK, qD, z1, z2, z3⟩ := q
  exact ⟨q0, q1, qP, va_K.moved (u := U) (U := U.calling g mk a) (Vm.Alike.refl U.vm) qK, qD, va_Nw.same rfl (rfl : U.vm = (U.calling g mk a).vm) z1, va_Nw.same rfl (rfl : U.vm = (U.calling g mk a).vm) z2, va_Nw.same rfl (rfl : U.vm = (U.calling g mk a).vm) z3⟩
theorem k_callI (F : kF g E l R cc own Ts nL) {pc : Nat} {y : MethodName} {wsC ws'' : List Cond} {rm : Room} {b index maxL mc ms : Nat} {bytes : ByteArray} {Pf : Option Value → va_W → Prop} (As rest : List Value) (n : Nat) (w0 wr : va_W) (isC isR : List Nat) (hM : kC l y wsC rm E (.ref b :: As) w0 mc ms Pf) (hd : decode cc pc = .ok (.invokespecial index, 3)) (hG : GoodIn Ts wsC) (hw : wsC = Cond.code y bytes maxL none :: ws'') (hy : y.cls ≠ "java/lang/invoke/MethodHandle" ∧ y.cls ≠ "java/lang/invoke/VarHandle" ∧ (parseMethodDescriptor y.desc).map (fun d => d.parameters.length) = some n) (hAs : As.length = n) (hy1 : y.name = "<init>") (hini : Cond.initialized y.cls ∈ Ts) (hinm : Cond.instanceMethod y ∈ Ts) (hlk : Cond.methodLink own index y ∈ Ts) (hrm : rm.cells = mc ∧ rm.slots = ms) (hR : rm.frames + 1 ≤ R.frames ∧ 8 + (maxL + 11) + rm.locals ≤ R.locals) (hst : st = As.reverse ++ .ref b :: rest) (hro : (rest.map fun v => v.category).sum ≤ 8) (hcs : ce + mc ≤ R.cells ∧ sl + ms ≤ R.slots) (hC : isC.map (fun i => ws[i]?) = w0.map some) (hRr : isR.map (fun i => ws[i]?) = wr.map some) (hnC : va_nd isC = true) (hn : va_nd isR = true) (hdis : ∀ i ∈ isR, i ∉ isC)
    (kk : ∀ (v : Option Value) (w1 : va_W), Pf v w1 → kK g (wr ++ w1) lv (ce + mc) (sl + ms) (pc + 3) (v.toList ++ rest)) : kK g ws lv ce sl pc st := by
  obtain ⟨p, l', e, R', s, m, args, below, meth, c, D, A, nL', Q⟩ := g
  obtain ⟨hx, hb, hml, hown, hts, hK, hA, rfl, rfl, rfl, rfl⟩ := F
  intro H locs ls hP hD hS hl
  subst hst; subst hAs
  have hPc := hP.sub isC (k_fm hC)
  have hDc := hD1 hnC hD hC
  exact k_run (va_runI (As := As) (rest := rest) ⟨hx, hb, hml, hown, hts⟩ (hM H.size) (cwI As.length hts hG hw hrm.1 hrm.2 (hts _ hini) (hts _ hlk) (hts _ hinm) hy1 hy hR) ⟨k_pc, fun U hU hW => ⟨rfl, by rw [hU], by rw [hU]; exact hPc, va_K.moved hW.alike hK, hDc⟩⟩ rfl rfl hl.1 rfl (lv_room hro) hd hcs) hP hD hS hA hl isC isR hC hRr hn hdis kk
theorem k_callIZ (F : kF g E l R cc own Ts nL) (Z : kZg g) {pc : Nat} {y : MethodName} {wsC ws'' : List Cond} {rm : Room} {b index maxL mc ms : Nat} {bytes : ByteArray} {Pf : Option Value → va_W → Prop} (As rest : List Value) (n : Nat) (w0 wr : va_W) (isC isR : List Nat) (hM : kCZ l y wsC rm E (.ref b :: As) w0 mc ms Pf) (hd : decode cc pc = .ok (.invokespecial index, 3)) (hG : GoodIn Ts wsC) (hw : wsC = Cond.code y bytes maxL none :: ws'') (hy : y.cls ≠ "java/lang/invoke/MethodHandle" ∧ y.cls ≠ "java/lang/invoke/VarHandle" ∧ (parseMethodDescriptor y.desc).map (fun d => d.parameters.length) = some n) (hAs : As.length = n) (hy1 : y.name = "<init>") (hini : Cond.initialized y.cls ∈ Ts) (hinm : Cond.instanceMethod y ∈ Ts) (hlk : Cond.methodLink own index y ∈ Ts) (hrm : rm.cells = mc ∧ rm.slots = ms) (hR : rm.frames + 1 ≤ R.frames ∧ 8 + (maxL + 11) + rm.locals ≤ R.locals) (hst : st = As.reverse ++ .ref b :: rest) (hro : (rest.map fun v => v.category).sum ≤ 8) (hcs : ce + mc ≤ R.cells ∧ sl + ms ≤ R.slots) (hC : isC.map (fun i => ws[i]?) = w0.map some) (hRr : isR.map (fun i => ws[i]?) = wr.map some) (hnC : va_nd isC = true) (hn : va_nd isR = true) (hdis : ∀ i ∈ isR, i ∉ isC)
    (kk : ∀ (v : Option Value) (w1 : va_W), Pf v w1 → kK g (wr ++ w1) lv (ce + mc) (sl + ms) (pc + 3) (v.toList ++ rest)) : kK g ws lv ce sl pc st := by
  obtain ⟨p, l', e, R', s, m, args, below, meth, c, D, A, nL', Q⟩ := g
  obtain ⟨hx, hb, hml, hown, hts, hK, hA, rfl, rfl, rfl, rfl⟩ := F
  intro H locs ls hP hD hS hl
  subst hst; subst hAs
  obtain ⟨z1, z2, z3⟩ := Z
  have hPc := hP.sub isC (k_fm hC)
  have hDc := hD1 hnC hD hC
  exact k_run (va_runI (As := As) (rest := rest) ⟨hx, hb, hml, hown, hts⟩ (hM H.size) (cwI As.length hts hG hw hrm.1 hrm.2 (hts _ hini) (hts _ hlk) (hts _ hinm) hy1 hy hR) ⟨k_pcZ, fun U hU hW => ⟨rfl, by rw [hU], by rw [hU]; exact hPc, va_K.moved hW.alike hK, hDc, va_Nw.warmM hW z1, va_Nw.warmM hW z2, va_Nw.warmM hW z3⟩⟩ rfl rfl hl.1 rfl (lv_room hro) hd hcs) hP hD hS hA hl isC isR hC hRr hn hdis kk
theorem k_callIN (F : kF g E l R cc own Ts nL) {host : String} {pc : Nat} {y : MethodName} {wsC ws'' : List Cond} {rm : Room} {b index maxL mc ms : Nat} {bytes : ByteArray} {Pf : Option Value → va_W → Prop} (As rest : List Value) (n : Nat) (w0 wr : va_W) (isC isR : List Nat) (Z : kNg g (.methodLinkNest own index y host)) (hM : kC l y wsC rm E (.ref b :: As) w0 mc ms Pf) (hd : decode cc pc = .ok (.invokespecial index, 3)) (hG : GoodIn Ts wsC) (hw : wsC = Cond.code y bytes maxL none :: ws'') (hy : y.cls ≠ "java/lang/invoke/MethodHandle" ∧ y.cls ≠ "java/lang/invoke/VarHandle" ∧ (parseMethodDescriptor y.desc).map (fun d => d.parameters.length) = some n) (hAs : As.length = n) (hy1 : y.name = "<init>") (hini : Cond.initialized y.cls ∈ Ts) (hinm : Cond.instanceMethod y ∈ Ts) (hrm : rm.cells = mc ∧ rm.slots = ms) (hR : rm.frames + 1 ≤ R.frames ∧ 8 + (maxL + 11) + rm.locals ≤ R.locals) (hst : st = As.reverse ++ .ref b :: rest) (hro : (rest.map fun v => v.category).sum ≤ 8) (hcs : ce + mc ≤ R.cells ∧ sl + ms ≤ R.slots) (hC : isC.map (fun i => ws[i]?) = w0.map some) (hRr : isR.map (fun i => ws[i]?) = wr.map some) (hnC : va_nd isC = true) (hn : va_nd isR = true) (hdis : ∀ i ∈ isR, i ∉ isC)
    (kk : ∀ (v : Option Value) (w1 : va_W), Pf v w1 → kK g (wr ++ w1) lv (ce + mc) (sl + ms) (pc + 3) (v.toList ++ rest)) : kK g ws lv ce sl pc st := by
  obtain ⟨p, l', e, R', s, m, args, below, meth, c, D, A, nL', Q⟩ := g
  obtain ⟨hx, hb, hml, hown, hts, hK, hA, rfl, rfl, rfl, rfl⟩ := F
  intro H locs ls hP hD hS hl
  subst hst; subst hAs
  have hPc := hP.sub isC (k_fm hC)
  have hDc := hD1 hnC hD hC
  exact k_run (va_runIN (As := As) (rest := rest) ⟨hx, hb, hml, hown, hts⟩ (hM H.size) ⟨va_cnB As.length hts hG hw hrm.1 hrm.2 Z (hts _ hini) hy hR, hy1, hts _ hinm⟩ ⟨k_pc, fun U hU hW => ⟨rfl, by rw [hU], by rw [hU]; exact hPc, va_K.moved hW.alike hK, hDc⟩⟩ rfl rfl hl.1 rfl (lv_room hro) hd hcs) hP hD hS hA hl isC isR hC hRr hn hdis kk
theorem kZg.a (Z : kZg g) : kNg g (.methodLinkNest RX3 26 yX2_init RX3) := by
  obtain ⟨p, l', e, R', s, m, args, below, meth, c, D, A, nL', Q⟩ := g
  exact Z.1
theorem kZg.b (Z : kZg g) : kNg g (.methodLinkNest RX3 36 yX0_init RX3) := by
  obtain ⟨p, l', e, R', s, m, args, below, meth, c, D, A, nL', Q⟩ := g
  exact Z.2.1
theorem kZg.c (Z : kZg g) : kNg g (.methodLinkNest RX3 43 yX1_init RX3) := by
  obtain ⟨p, l', e, R', s, m, args, below, meth, c, D, A, nL', Q⟩ := g
  exact Z.2.2
end KN
