/-! the mathematical value: what a scan is, in Int64 -/
def MINI : Int64 := -2147483648
def MAXI : Int64 := 2147483647
abbrev IV := Nat → Int64
abbrev ST := Nat → Option (IV × IV)
def upS (S : ST) (q : Nat) (x : Option (IV × IV)) : ST := fun j => if j = q then x else S j
def Rep (on : Nat → Bool) (lo hi : Nat → Int64) (S : ST) : Prop := ∀ q, q < 24 → (S q = none → on q = false) ∧ ∀ X, S q = some X → on q = true ∧ ∀ v, v < 4 → lo (4 * q + v) = X.1 v ∧ hi (4 * q + v) = X.2 v
def FRep (fs : Bool) (lf hf : Nat → Int64) (F : Option (IV × IV)) : Prop := (F = none → fs = false) ∧ ∀ X, F = some X → fs = true ∧ ∀ v, v < 4 → lf v = X.1 v ∧ hf v = X.2 v
def nlo (w : Bool) (l x : Int64) : Int64 := if x < l then (if w then MINI else x) else l
def nhi (w : Bool) (h x : Int64) : Int64 := if h < x then (if w then MAXI else x) else h
def chgV (X T : IV × IV) (v : Nat) : Bool := decide (T.1 v < X.1 v) || decide (X.2 v < T.2 v)
def chgTo (X T : IV × IV) : Nat → Bool
  | 0 => false
  | k + 1 => chgTo X T k || chgV X T k
def wid (w : Bool) (X T : IV × IV) : IV × IV := (fun v => if v < 4 then nlo w (X.1 v) (T.1 v) else X.1 v, fun v => if v < 4 then nhi w (X.2 v) (T.2 v) else X.2 v)
def arr (S : ST) (q : Nat) (F : Option (IV × IV)) (w : Bool) : Bool × ST := match F with
  | none => (false, S)
  | some T => match S q with
    | none => (true, upS S q (some T))
    | some X => (chgTo X T 4, upS S q (some (wid w X T)))
abbrev RS := Option (Int64 × Int64)
def tk (r : Int64) (o : RS) : RS := match o with
  | none => some (r, r)
  | some (a, b) => some (if r < a then r else a, if b < r then r else b)
def ex (op : Int) (x y : Int64) : Int64 := if op = 3 then x + y else if op = 4 then x - y else if op = 5 then x * y else x / y
def tk4 (op : Int) (x y f t : Int64) (o : RS) : RS := tk (ex op y t) (tk (ex op y f) (tk (ex op x t) (tk (ex op x f) o)))
def calc1 (x y f t : Int64) : RS := if f < 0 then tk4 6 x y f (if t < 0 then t else -1) none else none
def calcR (op : Int) (x y f t : Int64) : RS := if op = 6 then (if 0 < t then tk4 6 x y (if 0 < f then f else 1) t (calc1 x y f t) else calc1 x y f t) else tk4 op x y f t none
def sameW (l h : Int64) : Prop := l - l.toInt32.toInt64 = h - h.toInt32.toInt64
def putI (X : IV × IV) (a : Nat) (l h : Int64) : IV × IV := (vp_updL X.1 a l, vp_updL X.2 a h)
def mx (x y : Int64) : Int64 := if y < x then x else y
def mn (x y : Int64) : Int64 := if y < x then y else x
noncomputable def wrapP (X : IV × IV) (a : Nat) (l h : Int64) : IV × IV := if l - l.toInt32.toInt64 = h - h.toInt32.toInt64 then putI X a l.toInt32.toInt64 h.toInt32.toInt64 else putI X a MINI MAXI
noncomputable def resP (X : IV × IV) (a : Nat) (o : RS) : Option (IV × IV) := match o with
  | none => none
  | some r => some (wrapP X a r.1 r.2)
def crossed (Y : IV × IV) (a b : Nat) : Prop := Y.2 a < Y.1 a ∨ Y.2 b < Y.1 b
noncomputable def unlessX (Y : IV × IV) (a b : Nat) : Option (IV × IV) := if Y.2 a < Y.1 a ∨ Y.2 b < Y.1 b then none else some Y
def cmpN (X : IV × IV) (a b : Nat) : IV × IV := (vp_updL X.1 a (mx (X.1 a) (X.1 b)), vp_updL X.2 b (mn (X.2 b) (X.2 a)))
def cmpP (X : IV × IV) (a b : Nat) : IV × IV := (vp_updL X.1 b (mx (X.1 b) (X.1 a + 1)), vp_updL X.2 a (mn (X.2 a) (X.2 b - 1)))
noncomputable def fN (cd : Nat → Int32) (p : Nat) (X : IV × IV) : Option (IV × IV) :=
  if (cd (4 * p)).toInt = 1 then some (putI X ((cd (4 * p + 1)).toNatClampNeg) (cd (4 * p + 2)).toInt64 (cd (4 * p + 2)).toInt64)
  else if (cd (4 * p)).toInt = 2 then some (putI X ((cd (4 * p + 1)).toNatClampNeg) (X.1 ((cd (4 * p + 2)).toNatClampNeg)) (X.2 ((cd (4 * p + 2)).toNatClampNeg)))
  else if 3 ≤ (cd (4 * p)).toInt ∧ (cd (4 * p)).toInt ≤ 6 then resP X ((cd (4 * p + 1)).toNatClampNeg) (calcR ((cd (4 * p)).toInt) (X.1 ((cd (4 * p + 2)).toNatClampNeg)) (X.2 ((cd (4 * p + 2)).toNatClampNeg)) (X.1 ((cd (4 * p + 3)).toNatClampNeg)) (X.2 ((cd (4 * p + 3)).toNatClampNeg)))
  else if (cd (4 * p)).toInt = 7 then (if X.2 ((cd (4 * p + 2)).toNatClampNeg) < 0 ∨ 7 < X.1 ((cd (4 * p + 2)).toNatClampNeg) then none else some (putI X ((cd (4 * p + 1)).toNatClampNeg) MINI MAXI))
  else if (cd (4 * p)).toInt = 8 then (if X.2 ((cd (4 * p + 2)).toNatClampNeg) < 0 ∨ 7 < X.1 ((cd (4 * p + 2)).toNatClampNeg) then none else some X)
  else if (cd (4 * p)).toInt = 9 then (if (cd (4 * p + 1)).toNatClampNeg = (cd (4 * p + 2)).toNatClampNeg then some X else unlessX (cmpN X ((cd (4 * p + 1)).toNatClampNeg) ((cd (4 * p + 2)).toNatClampNeg)) ((cd (4 * p + 1)).toNatClampNeg) ((cd (4 * p + 2)).toNatClampNeg))
  else if (cd (4 * p)).toInt = 11 then some (putI X ((cd (4 * p + 1)).toNatClampNeg) MINI MAXI)
  else none
noncomputable def fP (cd : Nat → Int32) (p : Nat) (X : IV × IV) : Option (IV × IV) :=
  if (cd (4 * p)).toInt = 9 then (if (cd (4 * p + 1)).toNatClampNeg = (cd (4 * p + 2)).toNatClampNeg then none else unlessX (cmpP X ((cd (4 * p + 1)).toNatClampNeg) ((cd (4 * p + 2)).toNatClampNeg)) ((cd (4 * p + 1)).toNatClampNeg) ((cd (4 * p + 2)).toNatClampNeg))
  else if (cd (4 * p)).toInt = 10 then some X
  else none
/-- an instruction whose numbers are right -/
def okI (o a b c : Int32) : Prop := 0 ≤ o.toInt ∧ o.toInt ≤ 11 ∧ ((1 ≤ o.toInt ∧ o.toInt ≤ 9 ∨ o.toInt = 11) → 0 ≤ a.toInt ∧ a.toInt ≤ 3) ∧ (2 ≤ o.toInt ∧ o.toInt ≤ 9 → 0 ≤ b.toInt ∧ b.toInt ≤ 3) ∧ (3 ≤ o.toInt ∧ o.toInt ≤ 6 → 0 ≤ c.toInt ∧ c.toInt ≤ 3) ∧ (o.toInt = 9 ∨ o.toInt = 10 → 0 ≤ c.toInt ∧ c.toInt ≤ 23)
def okP (cd : Nat → Int32) (p : Nat) : Prop := okI (cd (4 * p)) (cd (4 * p + 1)) (cd (4 * p + 2)) (cd (4 * p + 3))
def okX (X : IV × IV) : Prop := ∀ v, v < 4 → -2147483648 ≤ (X.1 v).toInt ∧ (X.1 v).toInt ≤ (X.2 v).toInt ∧ (X.2 v).toInt ≤ 2147483647
/-- both flows of p let arrive -/
noncomputable def snd2 (cd : Nat → Int32) (p : Nat) (X : IV × IV) (w : Bool) (S : ST) : Bool × ST :=
  ((arr S (p + 1) (fN cd p X) false).1 || (arr (arr S (p + 1) (fN cd p X) false).2 ((cd (4 * p + 3)).toNatClampNeg) (fP cd p X) (w && decide ((cd (4 * p + 3)).toInt ≤ (p : Int)))).1,
   (arr (arr S (p + 1) (fN cd p X) false).2 ((cd (4 * p + 3)).toNatClampNeg) (fP cd p X) (w && decide ((cd (4 * p + 3)).toInt ≤ (p : Int)))).2)
noncomputable def rndTo (cd : Nat → Int32) (S : ST) : Nat → Bool × ST
  | 0 => (false, S)
  | k + 1 => match (rndTo cd S k).2 k with
    | none => rndTo cd S k
    | some X => ((rndTo cd S k).1 || (snd2 cd k X true (rndTo cd S k).2).1, (snd2 cd k X true (rndTo cd S k).2).2)
def S0 : ST := fun q => if q = 0 then some (fun _ => 0, fun _ => 0) else none
noncomputable def setTo (cd : Nat → Int32) (S : ST) : Nat → ST
  | 0 => S0
  | k + 1 => match S k with
    | none => setTo cd S k
    | some X => (snd2 cd k X false (setTo cd S k)).2
noncomputable def rndK (cd : Nat → Int32) (n : Nat) : Nat → ST
  | 0 => S0
  | k + 1 => (rndTo cd (rndK cd n k) n).2
def wholeP (cd : Nat → Int32) (n : Nat) : Prop := 0 < n ∧ ((cd (4 * (n - 1))).toInt = 0 ∨ (cd (4 * (n - 1))).toInt = 10) ∧ ∀ p, p < n → ((cd (4 * p)).toInt = 9 ∨ (cd (4 * p)).toInt = 10) → (cd (4 * p + 3)).toInt < (n : Int)
def RRep (em : Bool) (le gr : Int64) (o : RS) : Prop := (o = none → em = true) ∧ ∀ a b, o = some (a, b) → em = false ∧ le = a ∧ gr = b
theorem FRep.none_of {lf hf : Nat → Int64} {F : Option (IV × IV)} (h : FRep false lf hf F) : F = none := by
  cases F with
  | none => rfl
  | some X => exact absurd (h.2 X rfl).1 (by decide)
theorem FRep.some_of {lf hf : Nat → Int64} {F : Option (IV × IV)} (h : FRep true lf hf F) : ∃ X, F = some X ∧ ∀ v, v < 4 → lf v = X.1 v ∧ hf v = X.2 v := by
  cases F with
  | none => exact absurd (h.1 rfl) (by decide)
  | some X => exact ⟨X, rfl, (h.2 X rfl).2⟩
theorem Rep.off {on : Nat → Bool} {lo hi : Nat → Int64} {S : ST} (h : Rep on lo hi S) {q : Nat} (hq : q < 24) (ho : on q = false) : S q = none := by
  cases hs : S q with
  | none => rfl
  | some X => rw [((h q hq).2 X hs).1] at ho; exact absurd ho (by decide)
theorem Rep.up {on : Nat → Bool} {lo hi : Nat → Int64} {S : ST} (h : Rep on lo hi S) {q : Nat} (hq : q < 24) (ho : on q = true) : ∃ X, S q = some X ∧ ∀ v, v < 4 → lo (4 * q + v) = X.1 v ∧ hi (4 * q + v) = X.2 v := by
  cases hs : S q with
  | none => rw [(h q hq).1 hs] at ho; exact absurd ho (by decide)
  | some X => exact ⟨X, rfl, ((h q hq).2 X hs).2⟩
theorem updL_same (f : Nat → Int64) (k : Nat) : vp_updL f k (f k) = f := by
  funext j
  by_cases h : j = k <;> simp [vp_updL, h]
