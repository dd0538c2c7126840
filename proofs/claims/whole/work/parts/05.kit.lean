section HKIT
/-! ## numbers by integers -/
def iN (a : Int) : Int32 := Int32.ofInt a
def jN (a : Int) : Int64 := Int64.ofInt a
def bz (P : Prop) [Decidable P] : Int := if P then 1 else 0
def rg (a : Int) : Prop := -2147483648 ≤ a ∧ a < 2147483648
def rj (a : Int) : Prop := -9223372036854775808 ≤ a ∧ a < 9223372036854775808
theorem bz_t {P : Prop} [Decidable P] (h : P) : bz P = 1 := if_pos h
theorem bz_f {P : Prop} [Decidable P] (h : ¬ P) : bz P = 0 := if_neg h
theorem bz_01 (P : Prop) [Decidable P] : bz P = 0 ∨ bz P = 1 := by
  by_cases h : P
  · exact Or.inr (if_pos h)
  · exact Or.inl (if_neg h)
theorem bz_iff {P R : Prop} [Decidable P] [Decidable R] (h : P ↔ R) : bz P = bz R := by
  by_cases q : P
  · rw [bz_t q, bz_t (h.mp q)]
  · rw [bz_f q, bz_f (fun z => q (h.mpr z))]
theorem iN_toInt {a : Int} (h : -2147483648 ≤ a ∧ a < 2147483648) : (iN a).toInt = a := Int32.toInt_ofInt_of_le (by omega) (by omega)
theorem jN_toInt {a : Int} (h : -9223372036854775808 ≤ a ∧ a < 9223372036854775808) : (jN a).toInt = a := Int64.toInt_ofInt_of_le (by omega) (by omega)
theorem iN_of (x : Int32) : iN x.toInt = x := Int32.ofInt_toInt x
theorem iN_ex (x : Int32) : ∃ a : Int, x = iN a ∧ -2147483648 ≤ a ∧ a < 2147483648 := ⟨x.toInt, (iN_of x).symm, by have := x.le_toInt; omega, by have := x.toInt_lt; omega⟩
theorem iN_add (a b : Int) : iN a + iN b = iN (a + b) := (Int32.ofInt_add a b).symm
theorem iN_sub (a b : Int) : iN a - iN b = iN (a - b) := (Int32.ofInt_sub a b).symm
theorem iN_mul (a b : Int) : iN a * iN b = iN (a * b) := (Int32.ofInt_mul a b).symm
theorem iN_neg (a : Int) : - iN a = iN (- a) := (Int32.ofInt_neg a).symm
theorem jN_add (a b : Int) : jN a + jN b = jN (a + b) := (Int64.ofInt_add a b).symm
theorem jN_sub (a b : Int) : jN a - jN b = jN (a - b) := (Int64.ofInt_sub a b).symm
theorem jN_mul (a b : Int) : jN a * jN b = jN (a * b) := (Int64.ofInt_mul a b).symm
theorem iN_le {a b : Int} (h : -2147483648 ≤ a ∧ a < 2147483648 ∧ -2147483648 ≤ b ∧ b < 2147483648) : iN a ≤ iN b ↔ a ≤ b := by
  rw [Int32.le_iff_toInt_le, iN_toInt ⟨h.1, h.2.1⟩, iN_toInt h.2.2]
theorem iN_lt {a b : Int} (h : -2147483648 ≤ a ∧ a < 2147483648 ∧ -2147483648 ≤ b ∧ b < 2147483648) : iN a < iN b ↔ a < b := by
  rw [Int32.lt_iff_toInt_lt, iN_toInt ⟨h.1, h.2.1⟩, iN_toInt h.2.2]
theorem iN_eq {a b : Int} (h : -2147483648 ≤ a ∧ a < 2147483648 ∧ -2147483648 ≤ b ∧ b < 2147483648) : iN a = iN b ↔ a = b := by
  rw [← Int32.toInt_inj, iN_toInt ⟨h.1, h.2.1⟩, iN_toInt h.2.2]
theorem jN_le {a b : Int} (h : -9223372036854775808 ≤ a ∧ a < 9223372036854775808 ∧ -9223372036854775808 ≤ b ∧ b < 9223372036854775808) : jN a ≤ jN b ↔ a ≤ b := by
  rw [Int64.le_iff_toInt_le, jN_toInt ⟨h.1, h.2.1⟩, jN_toInt h.2.2]
theorem jN_lt {a b : Int} (h : -9223372036854775808 ≤ a ∧ a < 9223372036854775808 ∧ -9223372036854775808 ≤ b ∧ b < 9223372036854775808) : jN a < jN b ↔ a < b := by
  rw [Int64.lt_iff_toInt_lt, jN_toInt ⟨h.1, h.2.1⟩, jN_toInt h.2.2]
theorem jN_eq {a b : Int} (h : -9223372036854775808 ≤ a ∧ a < 9223372036854775808 ∧ -9223372036854775808 ≤ b ∧ b < 9223372036854775808) : jN a = jN b ↔ a = b := by
  rw [← Int64.toInt_inj, jN_toInt ⟨h.1, h.2.1⟩, jN_toInt h.2.2]
theorem iN_clamp {a : Int} (h : -2147483648 ≤ a ∧ a < 2147483648) : (iN a).toNatClampNeg = a.toNat := by
  show (iN a).toInt.toNat = _
  rw [iN_toInt h]
theorem iN_vin {a : Int} {n : Nat} (h : 0 ≤ a ∧ a < (n : Int)) (hn : n.ble 2147483647 = true) : vp_in (iN a) n := by
  have hn' : n ≤ 2147483647 := Nat.le_of_ble_eq_true hn
  refine vp_in_iff.mpr ?_
  rw [iN_toInt (by omega)]
  exact h
theorem iN_div {a b : Int} (h : 0 ≤ a ∧ a < 2147483648 ∧ 0 < b ∧ b < 2147483648) : iN a / iN b = iN (a / b) := by
  have e := Int32.ofInt_tdiv (a := a) (b := b) (by show (-2147483648 : Int) ≤ a; omega) (by show a ≤ (2147483647 : Int); omega) (by show (-2147483648 : Int) ≤ b; omega) (by show b ≤ (2147483647 : Int); omega)
  show Int32.ofInt a / Int32.ofInt b = Int32.ofInt (a / b)
  rw [← e, Int.tdiv_eq_ediv_of_nonneg h.1]
theorem iN_rem {a b : Int} (h : 0 ≤ a ∧ a < 2147483648 ∧ 0 < b ∧ b < 2147483648) : iN a - iN a / iN b * iN b = iN (a % b) := by
  rw [iN_div h, iN_mul, iN_sub]
  congr 1
  have := Int.emod_add_mul_ediv a b
  have e : b * (a / b) = a / b * b := Int.mul_comm _ _
  omega
theorem jN_div {a b : Int} (h : 0 ≤ a ∧ a < 9223372036854775808 ∧ 0 < b ∧ b < 9223372036854775808) : jN a / jN b = jN (a / b) := by
  have e := Int64.ofInt_tdiv (a := a) (b := b) (by show (-9223372036854775808 : Int) ≤ a; omega) (by show a ≤ (9223372036854775807 : Int); omega) (by show (-9223372036854775808 : Int) ≤ b; omega) (by show b ≤ (9223372036854775807 : Int); omega)
  show Int64.ofInt a / Int64.ofInt b = Int64.ofInt (a / b)
  rw [← e, Int.tdiv_eq_ediv_of_nonneg h.1]
theorem jN_rem {a b : Int} (h : 0 ≤ a ∧ a < 9223372036854775808 ∧ 0 < b ∧ b < 9223372036854775808) : jN a - jN a / jN b * jN b = jN (a % b) := by
  rw [jN_div h, jN_mul, jN_sub]
  congr 1
  have := Int.emod_add_mul_ediv a b
  have e : b * (a / b) = a / b * b := Int.mul_comm _ _
  omega
theorem iN_j {a : Int} (h : -2147483648 ≤ a ∧ a < 2147483648) : (iN a).toInt64 = jN a := Int32.toInt64_ofInt (by show (-2147483648 : Int) ≤ a; omega) (by show a ≤ (2147483647 : Int); omega)
theorem iN_nat (n : Nat) : iN (n : Int) = nI n := Int32.ofInt_eq_ofNat
theorem nar_z {a : Int} (h : a = 0 ∨ a = 1) : narrow .boolean (.int (iN a)) = .int (iN a) := by
  rcases h with rfl | rfl <;> rfl
def upz {α : Type} (f : Int → α) (i : Int) (v : α) : Int → α := fun j => if j = i then v else f j
theorem upz_s {α : Type} (f : Int → α) (i : Int) (v : α) : upz f i v i = v := if_pos rfl
theorem upz_n {α : Type} {f : Int → α} {i j : Int} {v : α} (h : j ≠ i) : upz f i v j = f j := if_neg h
/-! ## the world's cells -/
abbrev GX : Type := va_G × ClassId × ClassId × ClassId × ClassId
def aI (γ : GX) (n : Nat) (f : Int → Int) : va_E := .inl (γ.2.1, n, .inl (fun k => iN (f (k : Int))))
def aJ (γ : GX) (n : Nat) (f : Int → Int) : va_E := .inl (γ.2.2.1, n, .inr (.inl (fun k => jN (f (k : Int)))))
def aS (γ : GX) (n : Nat) (f : Int → Option Nat) : va_E := .inl (γ.2.2.2.1, n, .inr (.inr (.inr (.inr (fun k => f (k : Int))))))
def aW (γ : GX) (n : Nat) (f : Int → Option Nat) : va_E := .inl (γ.2.2.2.2, n, .inr (.inr (.inr (.inr (fun k => f (k : Int))))))
def ob (ci : Nat) (fs : List Value) : va_E := .inr (ci, fs)
def tysG (γ : GX) : List (ClassId × FieldType) := [(γ.2.1, .int), (γ.2.2.1, .long), (γ.2.2.2.1, .object RX5), (γ.2.2.2.2, .object RX9)]
def nestL : List (String × Nat × MethodName × String) := [(RX5, 37, yX11_isWithin, RX11), (RX7, 18, yX11_isWithin, RX11), (RX1, 69, yX11_isCell, RX11), (RX1, 65, yX11_isWithin, RX11), (RX1, 112, yX11_isIn, RX11)]
def extL : List Cond := [.methodLink RX8 7 ⟨RX3, "presses", "(II)I"⟩, .sameMethod "HillsLieDown$Hider" "HillsLieDown$Walker" "presses" "(II)I", .superclass RX8 RX3, .superclass RX3 RX9, .instanceMethod yX9_presses, .initialized RX9, .code yX9_presses cX9_presses 3 (some .int)]
def KG (γ : GX) (U : State) : Prop := va_K γ.1 vwCl (tysG γ) U ∧ (∀ q ∈ nestL, va_Nw (.methodLinkNest q.1 q.2.1 q.2.2.1 q.2.2.2) U) ∧ ∀ w ∈ extL, va_Nw w U
theorem extL_ok : ∀ w ∈ extL, (w.onTables && w.keeps) = true := by decide +kernel
theorem KG.warm {γ : GX} {s U : State} (hW : s.WarmedH U.vm) (h : KG γ s) : KG γ U := ⟨va_K.moved hW.alike h.1, fun q hq => va_Nw.warmM hW (h.2.1 q hq), fun w hw => word_at hW (Or.inl (extL_ok w hw)) (h.2.2 w hw)⟩
theorem KG.calling {γ : GX} {U : State} (h : KG γ U) (g : JFrame) (mk : MethodId) (a : Array Value) : KG γ (U.calling g mk a) := ⟨va_K.moved (u := U) (U := U.calling g mk a) (Vm.Alike.refl U.vm) h.1, fun q hq => va_Nw.same rfl (by rfl) (h.2.1 q hq), fun w hw => va_Nw.same (by have := extL_ok w hw; simp only [Bool.and_eq_true] at this; exact this.1) (by rfl) (h.2.2 w hw)⟩
/-! ## the walk, the heap hidden -/
abbrev CX : Type := Program × Launch × Env × Room × State × MethodId × Array Value × List Frame × Method × Code × (Nat → Prop) × (State → Prop) × GX × Nat
abbrev CX.p (X : CX) : Program := X.1
abbrev CX.l (X : CX) : Launch := X.2.1
abbrev CX.e (X : CX) : Env := X.2.2.1
abbrev CX.R (X : CX) : Room := X.2.2.2.1
abbrev CX.s (X : CX) : State := X.2.2.2.2.1
abbrev CX.m (X : CX) : MethodId := X.2.2.2.2.2.1
abbrev CX.args (X : CX) : Array Value := X.2.2.2.2.2.2.1
abbrev CX.below (X : CX) : List Frame := X.2.2.2.2.2.2.2.1
abbrev CX.meth (X : CX) : Method := X.2.2.2.2.2.2.2.2.1
abbrev CX.c (X : CX) : Code := X.2.2.2.2.2.2.2.2.2.1
abbrev CX.A (X : CX) : Nat → Prop := X.2.2.2.2.2.2.2.2.2.2.1
abbrev CX.Q (X : CX) : State → Prop := X.2.2.2.2.2.2.2.2.2.2.2.1
abbrev CX.γ (X : CX) : GX := X.2.2.2.2.2.2.2.2.2.2.2.2.1
abbrev CX.nL (X : CX) : Nat := X.2.2.2.2.2.2.2.2.2.2.2.2.2
def Wx (X : CX) (k n : Nat) (ws : va_W) (pc : Nat) (L : List (Nat × Value)) (st : List Value) : Prop :=
  ∀ (H : Heap) (locs : List Loc) (ls : Array Slot), va_P X.γ.1 vwCl ws H → va_D X.A ws → va_S X.A X.s.heap H locs → lv_has ls X.nL L →
    W X.p X.l X.e X.R X.s X.m X.args X.below X.meth X.c H locs k n X.Q (F0 X.m pc ls st)
/-- what is fixed in a method's walk: its code, locals, class, words, room, the tables -/
def Cx (X : CX) (cc : ByteArray) (nL : Nat) (own : String) (Ts : List Cond) (rm : Room) : Prop :=
  X.p.tables.exec = Jvm.exec ∧ X.c.code = cc ∧ X.c.maxLocals = nL ∧ X.nL = nL ∧ X.s.vm.findClass own = some X.m.cls ∧ (∀ w ∈ Ts, w.before X.args X.s = true) ∧ KG X.γ X.s ∧ (∀ q : Nat, X.s.heap.size ≤ q → X.A q) ∧ X.R = rm
variable {X : CX} {cc : ByteArray} {nL : Nat} {own : String} {Ts : List Cond} {rm : Room} {k n : Nat} {ws : va_W} {pc : Nat} {L : List (Nat × Value)} {st : List Value}
theorem Cx.hx (C : Cx X cc nL own Ts rm) : X.p.tables.exec = Jvm.exec := C.1
theorem Cx.hb (C : Cx X cc nL own Ts rm) : X.c.code = cc := C.2.1
theorem Cx.hml (C : Cx X cc nL own Ts rm) : X.c.maxLocals = nL := C.2.2.1
theorem Cx.hnL (C : Cx X cc nL own Ts rm) : X.nL = nL := C.2.2.2.1
theorem Cx.hown (C : Cx X cc nL own Ts rm) : X.s.vm.findClass own = some X.m.cls := C.2.2.2.2.1
theorem Cx.hts (C : Cx X cc nL own Ts rm) : ∀ w ∈ Ts, w.before X.args X.s = true := C.2.2.2.2.2.1
theorem Cx.hK (C : Cx X cc nL own Ts rm) : KG X.γ X.s := C.2.2.2.2.2.2.1
theorem Cx.hA (C : Cx X cc nL own Ts rm) : ∀ q : Nat, X.s.heap.size ≤ q → X.A q := C.2.2.2.2.2.2.2.1
theorem Cx.hR (C : Cx X cc nL own Ts rm) : X.R = rm := C.2.2.2.2.2.2.2.2
theorem Wx.widen {k' n' : Nat} (h1 : k ≤ k') (h2 : n ≤ n') (kk : Wx X k' n' ws pc L st) : Wx X k n ws pc L st := fun H locs ls hP hD hS hl => W.widen h1 h2 (kk H locs ls hP hD hS hl)
theorem Wx.subL {L' : List (Nat × Value)} (is : List Nat) (h : lv_pick L is = L') (kk : Wx X k n ws pc L' st) : Wx X k n ws pc L st := fun H locs ls hP hD hS hl => kk H locs ls hP hD hS (lv_sub hl is h)
theorem Wx.subW {ws' : va_W} (is : List Nat) (hn : va_nd is = true) (h : is.map (fun i => ws[i]?) = ws'.map some) (kk : Wx X k n ws' pc L st) : Wx X k n ws pc L st := fun H locs ls hP hD hS hl =>
  kk H locs ls (hP.sub is (by
    have e : is.filterMap (fun i => ws[i]?) = (is.map (fun i => ws[i]?)).filterMap id := by rw [List.filterMap_map]; rfl
    rw [e, h, List.filterMap_map]
    exact List.filterMap_some)) (hD.sub is hn h) hS hl
theorem Wx.eqS {st' : List Value} (h : st = st') (kk : Wx X k n ws pc L st') : Wx X k n ws pc L st := h ▸ kk
theorem Wx.eqW {ws' : va_W} (h : ws = ws') (kk : Wx X k n ws' pc L st) : Wx X k n ws pc L st := h ▸ kk
theorem Wx.eqL {L' : List (Nat × Value)} (h : L = L') (kk : Wx X k n ws pc L' st) : Wx X k n ws pc L st := h ▸ kk
/-! ## rows: straight instructions -/
theorem x_iconst (C : Cx X cc nL own Ts rm) {v : Int} {c0 : Int} (d : decode cc pc = .ok (.iconst c0, 1)) (kk : Wx X k n ws (pc + 1) L (.int (iN c0) :: st)) : Wx X k n ws pc L st :=
  fun H locs ls hP hD hS hl => lv_iconst C.hx C.hb d rfl (kk H locs ls hP hD hS hl)
theorem x_bipush (C : Cx X cc nL own Ts rm) (v : Int) {c0 : Int} (hv : (Int8.ofInt c0).toInt32 = iN v) (d : decode cc pc = .ok (.bipush c0, 2)) (kk : Wx X k n ws (pc + 2) L (.int (iN v) :: st)) : Wx X k n ws pc L st :=
  fun H locs ls hP hD hS hl => lv_bipush C.hx C.hb d hv (kk H locs ls hP hD hS hl)
theorem x_sipush (C : Cx X cc nL own Ts rm) (v : Int) {c0 : Int} (hv : (Int16.ofInt c0).toInt32 = iN v) (d : decode cc pc = .ok (.sipush c0, 3)) (kk : Wx X k n ws (pc + 3) L (.int (iN v) :: st)) : Wx X k n ws pc L st :=
  fun H locs ls hP hD hS hl => lv_sipush C.hx C.hb d hv (kk H locs ls hP hD hS hl)
theorem x_lconst (C : Cx X cc nL own Ts rm) (v : Int) {c0 : Fin 2} (hv : Int64.ofNat (c0 : Nat) = jN v) (d : decode cc pc = .ok (.lconst c0, 1)) (kk : Wx X k n ws (pc + 1) L (.long (jN v) :: st)) : Wx X k n ws pc L st :=
  fun H locs ls hP hD hS hl => lv_lconst C.hx C.hb d hv (kk H locs ls hP hD hS hl)
theorem x_ldc (C : Cx X cc nL own Ts rm) (v : Int) {ix : Nat} {w : Int32} (hc : Cond.constant own ix w ∈ Ts) (hv : w = iN v) (d : decode cc pc = .ok (.ldc ix, 2)) (kk : Wx X k n ws (pc + 2) L (.int (iN v) :: st)) : Wx X k n ws pc L st :=
  fun H locs ls hP hD hS hl => lv_ldc C.hx C.hb C.hown (C.hts _ hc) d (by rw [hv]; exact kk H locs ls hP hD hS hl)
theorem x_ldcw (C : Cx X cc nL own Ts rm) (v : Int) {ix : Nat} {w : Int32} (hc : Cond.constant own ix w ∈ Ts) (hv : w = iN v) (d : decode cc pc = .ok (.ldc_w ix, 3)) (kk : Wx X k n ws (pc + 3) L (.int (iN v) :: st)) : Wx X k n ws pc L st :=
  fun H locs ls hP hD hS hl => lv_ldcw C.hx C.hb C.hown (C.hts _ hc) d (by rw [hv]; exact kk H locs ls hP hD hS hl)
theorem x_ldc2 (C : Cx X cc nL own Ts rm) (v : Int) {ix : Nat} {w : Int64} (hc : Cond.constantLong own ix w ∈ Ts) (hv : w = jN v) (d : decode cc pc = .ok (.ldc2_w ix, 3)) (kk : Wx X k n ws (pc + 3) L (.long (jN v) :: st)) : Wx X k n ws pc L st :=
  fun H locs ls hP hD hS hl => lv_ldc2 C.hx C.hb C.hown (C.hts _ hc) d (by rw [hv]; exact kk H locs ls hP hD hS hl)
theorem x_iload_n (C : Cx X cc nL own Ts rm) (j : Nat) {i : Nat} {i' : Fin 4} {v : Int32} (hi : (i' : Nat) = i) (h : L[j]? = some (i, .int v)) (d : decode cc pc = .ok (.iload_n i', 1)) (kk : Wx X k n ws (pc + 1) L (.int v :: st)) : Wx X k n ws pc L st :=
  fun H locs ls hP hD hS hl => lv_iload_n C.hx C.hb d hi (lv_at hl j h) (kk H locs ls hP hD hS hl)
theorem x_iload (C : Cx X cc nL own Ts rm) (j : Nat) {i : Nat} {v : Int32} (h : L[j]? = some (i, .int v)) (d : decode cc pc = .ok (.iload i, 2)) (kk : Wx X k n ws (pc + 2) L (.int v :: st)) : Wx X k n ws pc L st :=
  fun H locs ls hP hD hS hl => lv_iload C.hx C.hb d (lv_at hl j h) (kk H locs ls hP hD hS hl)
theorem x_istore_n (C : Cx X cc nL own Ts rm) (L' : List (Nat × Value)) {i : Nat} {i' : Fin 4} {v : Int32} (hi : (i' : Nat) = i) (hn : i < nL) (h : (i, Value.int v) :: L.filter (fun q => !(q.1 == i) && !(q.1 + 1 == i && q.2.category == 2)) = L') (d : decode cc pc = .ok (.istore_n i', 1)) (kk : Wx X k n ws (pc + 1) L' st) : Wx X k n ws pc L (.int v :: st) :=
  fun H locs ls hP hD hS hl => lv_istore_n C.hx C.hb d hi hl (by rw [C.hnL]; exact hn) h (fun ls hl => kk H locs ls hP hD hS hl)
theorem x_istore (C : Cx X cc nL own Ts rm) (L' : List (Nat × Value)) {i : Nat} {v : Int32} (hn : i < nL) (h : (i, Value.int v) :: L.filter (fun q => !(q.1 == i) && !(q.1 + 1 == i && q.2.category == 2)) = L') (d : decode cc pc = .ok (.istore i, 2)) (kk : Wx X k n ws (pc + 2) L' st) : Wx X k n ws pc L (.int v :: st) :=
  fun H locs ls hP hD hS hl => lv_istore C.hx C.hb d hl (by rw [C.hnL]; exact hn) h (fun ls hl => kk H locs ls hP hD hS hl)
theorem x_lload_n (C : Cx X cc nL own Ts rm) (j : Nat) {i : Nat} {i' : Fin 4} {v : Int64} (hi : (i' : Nat) = i) (h : L[j]? = some (i, .long v)) (d : decode cc pc = .ok (.lload_n i', 1)) (kk : Wx X k n ws (pc + 1) L (.long v :: st)) : Wx X k n ws pc L st :=
  fun H locs ls hP hD hS hl => lv_lload_n C.hx C.hb d hi (lv_at hl j h) (kk H locs ls hP hD hS hl)
theorem x_lload (C : Cx X cc nL own Ts rm) (j : Nat) {i : Nat} {v : Int64} (h : L[j]? = some (i, .long v)) (d : decode cc pc = .ok (.lload i, 2)) (kk : Wx X k n ws (pc + 2) L (.long v :: st)) : Wx X k n ws pc L st :=
  fun H locs ls hP hD hS hl => lv_lload C.hx C.hb d (lv_at hl j h) (kk H locs ls hP hD hS hl)
theorem x_lstore_n (C : Cx X cc nL own Ts rm) (L' : List (Nat × Value)) {i : Nat} {i' : Fin 4} {v : Int64} (hi : (i' : Nat) = i) (hn : i + 1 < nL) (h : (i, Value.long v) :: L.filter (fun q => !(q.1 == i) && (!(q.1 == i + 1) && !(q.1 + 1 == i && q.2.category == 2))) = L') (d : decode cc pc = .ok (.lstore_n i', 1)) (kk : Wx X k n ws (pc + 1) L' st) : Wx X k n ws pc L (.long v :: st) :=
  fun H locs ls hP hD hS hl => lv_lstore_n C.hx C.hb d hi hl (by rw [C.hnL]; exact hn) h (fun ls hl => kk H locs ls hP hD hS hl)
theorem x_lstore (C : Cx X cc nL own Ts rm) (L' : List (Nat × Value)) {i : Nat} {v : Int64} (hn : i + 1 < nL) (h : (i, Value.long v) :: L.filter (fun q => !(q.1 == i) && (!(q.1 == i + 1) && !(q.1 + 1 == i && q.2.category == 2))) = L') (d : decode cc pc = .ok (.lstore i, 2)) (kk : Wx X k n ws (pc + 2) L' st) : Wx X k n ws pc L (.long v :: st) :=
  fun H locs ls hP hD hS hl => lv_lstore C.hx C.hb d hl (by rw [C.hnL]; exact hn) h (fun ls hl => kk H locs ls hP hD hS hl)
theorem x_aload_n (C : Cx X cc nL own Ts rm) (j : Nat) {i : Nat} {i' : Fin 4} {v : Nat} (hi : (i' : Nat) = i) (h : L[j]? = some (i, .ref v)) (d : decode cc pc = .ok (.aload_n i', 1)) (kk : Wx X k n ws (pc + 1) L (.ref v :: st)) : Wx X k n ws pc L st :=
  fun H locs ls hP hD hS hl => lv_aload_n C.hx C.hb d hi (lv_at hl j h) (kk H locs ls hP hD hS hl)
theorem x_aload (C : Cx X cc nL own Ts rm) (j : Nat) {i : Nat} {v : Nat} (h : L[j]? = some (i, .ref v)) (d : decode cc pc = .ok (.aload i, 2)) (kk : Wx X k n ws (pc + 2) L (.ref v :: st)) : Wx X k n ws pc L st :=
  fun H locs ls hP hD hS hl => lv_aload C.hx C.hb d (lv_at hl j h) (kk H locs ls hP hD hS hl)
theorem x_astore_n (C : Cx X cc nL own Ts rm) (L' : List (Nat × Value)) {i : Nat} {i' : Fin 4} {v : Nat} (hi : (i' : Nat) = i) (hn : i < nL) (h : (i, Value.ref v) :: L.filter (fun q => !(q.1 == i) && !(q.1 + 1 == i && q.2.category == 2)) = L') (d : decode cc pc = .ok (.astore_n i', 1)) (kk : Wx X k n ws (pc + 1) L' st) : Wx X k n ws pc L (.ref v :: st) :=
  fun H locs ls hP hD hS hl => lv_astore_n C.hx C.hb d hi hl (by rw [C.hnL]; exact hn) h (fun ls hl => kk H locs ls hP hD hS hl)
theorem x_astore (C : Cx X cc nL own Ts rm) (L' : List (Nat × Value)) {i : Nat} {v : Nat} (hn : i < nL) (h : (i, Value.ref v) :: L.filter (fun q => !(q.1 == i) && !(q.1 + 1 == i && q.2.category == 2)) = L') (d : decode cc pc = .ok (.astore i, 2)) (kk : Wx X k n ws (pc + 2) L' st) : Wx X k n ws pc L (.ref v :: st) :=
  fun H locs ls hP hD hS hl => lv_astore C.hx C.hb d hl (by rw [C.hnL]; exact hn) h (fun ls hl => kk H locs ls hP hD hS hl)
theorem x_iinc (C : Cx X cc nL own Ts rm) (j : Nat) (L' : List (Nat × Value)) {i : Nat} {c0 a b : Int} (hj : L[j]? = some (i, .int (iN a))) (hb : a + c0 = b) (hn : i < nL) (h : (i, Value.int (iN b)) :: L.filter (fun q => !(q.1 == i) && !(q.1 + 1 == i && q.2.category == 2)) = L') (d : decode cc pc = .ok (.iinc i c0, 3)) (kk : Wx X k n ws (pc + 3) L' st) : Wx X k n ws pc L st :=
  fun H locs ls hP hD hS hl => lv_iinc (v := iN b) C.hx C.hb d hl hj (by rw [← hb]; exact iN_add a c0) (by rw [C.hnL]; exact hn) h (fun ls hl => kk H locs ls hP hD hS hl)
theorem x_iadd (C : Cx X cc nL own Ts rm) {a b : Int}  (d : decode cc pc = .ok (.iadd, 1)) (kk : Wx X k n ws (pc + 1) L (.int (iN (a + b)) :: st)) : Wx X k n ws pc L (.int (iN b) :: .int (iN a) :: st) :=
  fun H locs ls hP hD hS hl => lv_iadd C.hx C.hb d  (by rw [iN_add]; exact kk H locs ls hP hD hS hl)
theorem x_isub (C : Cx X cc nL own Ts rm) {a b : Int}  (d : decode cc pc = .ok (.isub, 1)) (kk : Wx X k n ws (pc + 1) L (.int (iN (a - b)) :: st)) : Wx X k n ws pc L (.int (iN b) :: .int (iN a) :: st) :=
  fun H locs ls hP hD hS hl => lv_isub C.hx C.hb d  (by rw [iN_sub]; exact kk H locs ls hP hD hS hl)
theorem x_imul (C : Cx X cc nL own Ts rm) {a b : Int}  (d : decode cc pc = .ok (.imul, 1)) (kk : Wx X k n ws (pc + 1) L (.int (iN (a * b)) :: st)) : Wx X k n ws pc L (.int (iN b) :: .int (iN a) :: st) :=
  fun H locs ls hP hD hS hl => lv_imul C.hx C.hb d  (by rw [iN_mul]; exact kk H locs ls hP hD hS hl)
theorem x_ladd (C : Cx X cc nL own Ts rm) {a b : Int}  (d : decode cc pc = .ok (.ladd, 1)) (kk : Wx X k n ws (pc + 1) L (.long (jN (a + b)) :: st)) : Wx X k n ws pc L (.long (jN b) :: .long (jN a) :: st) :=
  fun H locs ls hP hD hS hl => lv_ladd C.hx C.hb d  (by rw [jN_add]; exact kk H locs ls hP hD hS hl)
theorem x_lmul (C : Cx X cc nL own Ts rm) {a b : Int}  (d : decode cc pc = .ok (.lmul, 1)) (kk : Wx X k n ws (pc + 1) L (.long (jN (a * b)) :: st)) : Wx X k n ws pc L (.long (jN b) :: .long (jN a) :: st) :=
  fun H locs ls hP hD hS hl => lv_lmul C.hx C.hb d  (by rw [jN_mul]; exact kk H locs ls hP hD hS hl)
theorem x_idiv (C : Cx X cc nL own Ts rm) {a b : Int} (h : 0 ≤ a ∧ a < 2147483648 ∧ 0 < b ∧ b < 2147483648) (d : decode cc pc = .ok (.idiv, 1)) (kk : Wx X k n ws (pc + 1) L (.int (iN (a / b)) :: st)) : Wx X k n ws pc L (.int (iN b) :: .int (iN a) :: st) :=
  fun H locs ls hP hD hS hl => lv_idiv C.hx C.hb d (fun e => by have q := (iN_eq (a := b) (b := 0) (by omega)).mp e; omega) (by rw [iN_div h]; exact kk H locs ls hP hD hS hl)
theorem x_irem (C : Cx X cc nL own Ts rm) {a b : Int} (h : 0 ≤ a ∧ a < 2147483648 ∧ 0 < b ∧ b < 2147483648) (d : decode cc pc = .ok (.irem, 1)) (kk : Wx X k n ws (pc + 1) L (.int (iN (a % b)) :: st)) : Wx X k n ws pc L (.int (iN b) :: .int (iN a) :: st) :=
  fun H locs ls hP hD hS hl => lv_irem C.hx C.hb d (fun e => by have q := (iN_eq (a := b) (b := 0) (by omega)).mp e; omega) (by rw [iN_rem h]; exact kk H locs ls hP hD hS hl)
theorem x_ldiv (C : Cx X cc nL own Ts rm) {a b : Int} (h : 0 ≤ a ∧ a < 9223372036854775808 ∧ 0 < b ∧ b < 9223372036854775808) (d : decode cc pc = .ok (.ldiv, 1)) (kk : Wx X k n ws (pc + 1) L (.long (jN (a / b)) :: st)) : Wx X k n ws pc L (.long (jN b) :: .long (jN a) :: st) :=
  fun H locs ls hP hD hS hl => lv_ldiv C.hx C.hb d (fun e => by have q := (jN_eq (a := b) (b := 0) (by omega)).mp e; omega) (by rw [jN_div h]; exact kk H locs ls hP hD hS hl)
theorem x_lrem (C : Cx X cc nL own Ts rm) {a b : Int} (h : 0 ≤ a ∧ a < 9223372036854775808 ∧ 0 < b ∧ b < 9223372036854775808) (d : decode cc pc = .ok (.lrem, 1)) (kk : Wx X k n ws (pc + 1) L (.long (jN (a % b)) :: st)) : Wx X k n ws pc L (.long (jN b) :: .long (jN a) :: st) :=
  fun H locs ls hP hD hS hl => lv_lrem C.hx C.hb d (fun e => by have q := (jN_eq (a := b) (b := 0) (by omega)).mp e; omega) (by rw [jN_rem h]; exact kk H locs ls hP hD hS hl)
theorem x_ineg (C : Cx X cc nL own Ts rm) {a : Int} (d : decode cc pc = .ok (.ineg, 1)) (kk : Wx X k n ws (pc + 1) L (.int (iN (- a)) :: st)) : Wx X k n ws pc L (.int (iN a) :: st) :=
  fun H locs ls hP hD hS hl => lv_ineg C.hx C.hb d (by rw [iN_neg]; exact kk H locs ls hP hD hS hl)
theorem x_i2l (C : Cx X cc nL own Ts rm) {a : Int} (h : -2147483648 ≤ a ∧ a < 2147483648) (d : decode cc pc = .ok (.i2l, 1)) (kk : Wx X k n ws (pc + 1) L (.long (jN a) :: st)) : Wx X k n ws pc L (.int (iN a) :: st) :=
  fun H locs ls hP hD hS hl => lv_i2l C.hx C.hb d (iN_j h) (kk H locs ls hP hD hS hl)
theorem x_iand (C : Cx X cc nL own Ts rm) {x y : Int32} (r : Int) (hr : x &&& y = iN r) (d : decode cc pc = .ok (.iand, 1)) (kk : Wx X k n ws (pc + 1) L (.int (iN r) :: st)) : Wx X k n ws pc L (.int y :: .int x :: st) :=
  fun H locs ls hP hD hS hl => lv_iand C.hx C.hb d (by rw [hr]; exact kk H locs ls hP hD hS hl)
theorem x_ior (C : Cx X cc nL own Ts rm) {x y : Int32} (r : Int) (hr : x ||| y = iN r) (d : decode cc pc = .ok (.ior, 1)) (kk : Wx X k n ws (pc + 1) L (.int (iN r) :: st)) : Wx X k n ws pc L (.int y :: .int x :: st) :=
  fun H locs ls hP hD hS hl => lv_ior C.hx C.hb d (by rw [hr]; exact kk H locs ls hP hD hS hl)
theorem x_ixor (C : Cx X cc nL own Ts rm) {x y : Int32} (r : Int) (hr : x ^^^ y = iN r) (d : decode cc pc = .ok (.ixor, 1)) (kk : Wx X k n ws (pc + 1) L (.int (iN r) :: st)) : Wx X k n ws pc L (.int y :: .int x :: st) :=
  fun H locs ls hP hD hS hl => lv_ixor C.hx C.hb d (by rw [hr]; exact kk H locs ls hP hD hS hl)
theorem x_ishl (C : Cx X cc nL own Ts rm) {x y : Int32} (r : Int) (hr : x <<< (y &&& 31) = iN r) (d : decode cc pc = .ok (.ishl, 1)) (kk : Wx X k n ws (pc + 1) L (.int (iN r) :: st)) : Wx X k n ws pc L (.int y :: .int x :: st) :=
  fun H locs ls hP hD hS hl => lv_ishl C.hx C.hb d (by rw [hr]; exact kk H locs ls hP hD hS hl)
theorem x_ishr (C : Cx X cc nL own Ts rm) {x y : Int32} (r : Int) (hr : x >>> (y &&& 31) = iN r) (d : decode cc pc = .ok (.ishr, 1)) (kk : Wx X k n ws (pc + 1) L (.int (iN r) :: st)) : Wx X k n ws pc L (.int y :: .int x :: st) :=
  fun H locs ls hP hD hS hl => lv_ishr C.hx C.hb d (by rw [hr]; exact kk H locs ls hP hD hS hl)
theorem x_iushr (C : Cx X cc nL own Ts rm) {x y : Int32} (r : Int) (hr : (x.toUInt32 >>> (y.toUInt32 &&& Int32.toUInt32 31)).toInt32 = iN r) (d : decode cc pc = .ok (.iushr, 1)) (kk : Wx X k n ws (pc + 1) L (.int (iN r) :: st)) : Wx X k n ws pc L (.int y :: .int x :: st) :=
  fun H locs ls hP hD hS hl => lv_iushr C.hx C.hb d hr (kk H locs ls hP hD hS hl)
theorem x_l2i (C : Cx X cc nL own Ts rm) {x : Int64} (r : Int) (hr : x.toInt32 = iN r) (d : decode cc pc = .ok (.l2i, 1)) (kk : Wx X k n ws (pc + 1) L (.int (iN r) :: st)) : Wx X k n ws pc L (.long x :: st) :=
  fun H locs ls hP hD hS hl => lv_l2i C.hx C.hb d hr (kk H locs ls hP hD hS hl)
theorem x_i2b (C : Cx X cc nL own Ts rm) {x : Int32} (r : Int) (hr : x.toInt8.toInt32 = iN r) (d : decode cc pc = .ok (.i2b, 1)) (kk : Wx X k n ws (pc + 1) L (.int (iN r) :: st)) : Wx X k n ws pc L (.int x :: st) :=
  fun H locs ls hP hD hS hl => lv_i2b C.hx C.hb d hr (kk H locs ls hP hD hS hl)
theorem x_i2s (C : Cx X cc nL own Ts rm) {x : Int32} (r : Int) (hr : x.toInt16.toInt32 = iN r) (d : decode cc pc = .ok (.i2s, 1)) (kk : Wx X k n ws (pc + 1) L (.int (iN r) :: st)) : Wx X k n ws pc L (.int x :: st) :=
  fun H locs ls hP hD hS hl => lv_i2s C.hx C.hb d hr (kk H locs ls hP hD hS hl)
theorem x_dup (C : Cx X cc nL own Ts rm) {v : Value} (hv : v.category = 1) (d : decode cc pc = .ok (.dup, 1)) (kk : Wx X k n ws (pc + 1) L (v :: v :: st)) : Wx X k n ws pc L (v :: st) :=
  fun H locs ls hP hD hS hl => lv_dup C.hx C.hb d hv (kk H locs ls hP hD hS hl)
theorem x_dup2 (C : Cx X cc nL own Ts rm) {v w : Value} (hv : v.category = 1) (hw : w.category = 1) (d : decode cc pc = .ok (.dup2, 1)) (kk : Wx X k n ws (pc + 1) L (v :: w :: v :: w :: st)) : Wx X k n ws pc L (v :: w :: st) :=
  fun H locs ls hP hD hS hl => lv_dup2_11 C.hx C.hb d hv hw (kk H locs ls hP hD hS hl)
theorem x_pop (C : Cx X cc nL own Ts rm) {v : Value} (hv : v.category = 1) (d : decode cc pc = .ok (.pop, 1)) (kk : Wx X k n ws (pc + 1) L st) : Wx X k n ws pc L (v :: st) :=
  fun H locs ls hP hD hS hl => lv_pop C.hx C.hb d hv (kk H locs ls hP hD hS hl)
theorem x_goto (C : Cx X cc nL own Ts rm) {off : Int} (tgt : Nat) (ht : (pc : Int) + off = (tgt : Int)) (d : decode cc pc = .ok (.goto off, 3)) (kk : Wx X k n ws tgt L st) : Wx X k n ws pc L st :=
  fun H locs ls hP hD hS hl => lv_goto C.hx C.hb d ht (kk H locs ls hP hD hS hl)
/-! ## rows: branches -/
theorem x_icmp_eq (C : Cx X cc nL own Ts rm) {a b off : Int} (tgt : Nat) (ht : (pc : Int) + off = (tgt : Int)) (h : -2147483648 ≤ a ∧ a < 2147483648 ∧ -2147483648 ≤ b ∧ b < 2147483648) (d : decode cc pc = .ok (.if_icmp .eq off, 3)) (kt : a = b → Wx X k n ws tgt L st) (kf : a ≠ b → Wx X k n ws (pc + 3) L st) : Wx X k n ws pc L (.int (iN b) :: .int (iN a) :: st) :=
  fun H locs ls hP hD hS hl => lv_icmp_eq C.hx C.hb d ht (fun q => kt ((iN_eq h).mp q) H locs ls hP hD hS hl) (fun q => kf (fun e => q ((iN_eq h).mpr e)) H locs ls hP hD hS hl)
theorem x_icmp_ne (C : Cx X cc nL own Ts rm) {a b off : Int} (tgt : Nat) (ht : (pc : Int) + off = (tgt : Int)) (h : -2147483648 ≤ a ∧ a < 2147483648 ∧ -2147483648 ≤ b ∧ b < 2147483648) (d : decode cc pc = .ok (.if_icmp .ne off, 3)) (kt : a ≠ b → Wx X k n ws tgt L st) (kf : a = b → Wx X k n ws (pc + 3) L st) : Wx X k n ws pc L (.int (iN b) :: .int (iN a) :: st) :=
  fun H locs ls hP hD hS hl => lv_icmp_ne C.hx C.hb d ht (fun q => kt (fun e => q ((iN_eq h).mpr e)) H locs ls hP hD hS hl) (fun q => kf ((iN_eq h).mp q) H locs ls hP hD hS hl)
theorem x_icmp_lt (C : Cx X cc nL own Ts rm) {a b off : Int} (tgt : Nat) (ht : (pc : Int) + off = (tgt : Int)) (h : -2147483648 ≤ a ∧ a < 2147483648 ∧ -2147483648 ≤ b ∧ b < 2147483648) (d : decode cc pc = .ok (.if_icmp .lt off, 3)) (kt : a < b → Wx X k n ws tgt L st) (kf : b ≤ a → Wx X k n ws (pc + 3) L st) : Wx X k n ws pc L (.int (iN b) :: .int (iN a) :: st) :=
  fun H locs ls hP hD hS hl => lv_icmp_lt C.hx C.hb d ht (fun q => kt ((iN_lt h).mp q) H locs ls hP hD hS hl) (fun q => kf (Int.not_lt.mp (fun z => q ((iN_lt h).mpr z))) H locs ls hP hD hS hl)
theorem x_icmp_ge (C : Cx X cc nL own Ts rm) {a b off : Int} (tgt : Nat) (ht : (pc : Int) + off = (tgt : Int)) (h : -2147483648 ≤ a ∧ a < 2147483648 ∧ -2147483648 ≤ b ∧ b < 2147483648) (d : decode cc pc = .ok (.if_icmp .ge off, 3)) (kt : b ≤ a → Wx X k n ws tgt L st) (kf : a < b → Wx X k n ws (pc + 3) L st) : Wx X k n ws pc L (.int (iN b) :: .int (iN a) :: st) :=
  fun H locs ls hP hD hS hl => lv_icmp_ge C.hx C.hb d ht (fun q => kt ((iN_le ⟨h.2.2.1, h.2.2.2, h.1, h.2.1⟩).mp q) H locs ls hP hD hS hl) (fun q => kf (Int.not_le.mp (fun z => q ((iN_le ⟨h.2.2.1, h.2.2.2, h.1, h.2.1⟩).mpr z))) H locs ls hP hD hS hl)
theorem x_icmp_gt (C : Cx X cc nL own Ts rm) {a b off : Int} (tgt : Nat) (ht : (pc : Int) + off = (tgt : Int)) (h : -2147483648 ≤ a ∧ a < 2147483648 ∧ -2147483648 ≤ b ∧ b < 2147483648) (d : decode cc pc = .ok (.if_icmp .gt off, 3)) (kt : b < a → Wx X k n ws tgt L st) (kf : a ≤ b → Wx X k n ws (pc + 3) L st) : Wx X k n ws pc L (.int (iN b) :: .int (iN a) :: st) :=
  fun H locs ls hP hD hS hl => lv_icmp_gt C.hx C.hb d ht (fun q => kt ((iN_lt ⟨h.2.2.1, h.2.2.2, h.1, h.2.1⟩).mp q) H locs ls hP hD hS hl) (fun q => kf (Int.not_lt.mp (fun z => q ((iN_lt ⟨h.2.2.1, h.2.2.2, h.1, h.2.1⟩).mpr z))) H locs ls hP hD hS hl)
theorem x_icmp_le (C : Cx X cc nL own Ts rm) {a b off : Int} (tgt : Nat) (ht : (pc : Int) + off = (tgt : Int)) (h : -2147483648 ≤ a ∧ a < 2147483648 ∧ -2147483648 ≤ b ∧ b < 2147483648) (d : decode cc pc = .ok (.if_icmp .le off, 3)) (kt : a ≤ b → Wx X k n ws tgt L st) (kf : b < a → Wx X k n ws (pc + 3) L st) : Wx X k n ws pc L (.int (iN b) :: .int (iN a) :: st) :=
  fun H locs ls hP hD hS hl => lv_icmp_le C.hx C.hb d ht (fun q => kt ((iN_le h).mp q) H locs ls hP hD hS hl) (fun q => kf (Int.not_le.mp (fun z => q ((iN_le h).mpr z))) H locs ls hP hD hS hl)
theorem x_if_eq (C : Cx X cc nL own Ts rm) {a off : Int} (tgt : Nat) (ht : (pc : Int) + off = (tgt : Int)) (h1 : -2147483648 ≤ a ∧ a < 2147483648) (d : decode cc pc = .ok (.ifCond .eq off, 3)) (kt : a = 0 → Wx X k n ws tgt L st) (kf : a ≠ 0 → Wx X k n ws (pc + 3) L st) : Wx X k n ws pc L (.int (iN a) :: st) := by
  have h : -2147483648 ≤ a ∧ a < 2147483648 ∧ -2147483648 ≤ (0 : Int) ∧ (0 : Int) < 2147483648 := by omega
  intro H locs ls hP hD hS hl
  refine lv_if_eq C.hx C.hb d ht (fun q => ?_) (fun q => ?_)
  · have q : iN a = iN 0 := q
    exact kt ((iN_eq h).mp q) H locs ls hP hD hS hl
  · have q : ¬ iN a = iN 0 := q
    exact kf (fun e => q ((iN_eq h).mpr e)) H locs ls hP hD hS hl
theorem x_if_ne (C : Cx X cc nL own Ts rm) {a off : Int} (tgt : Nat) (ht : (pc : Int) + off = (tgt : Int)) (h1 : -2147483648 ≤ a ∧ a < 2147483648) (d : decode cc pc = .ok (.ifCond .ne off, 3)) (kt : a ≠ 0 → Wx X k n ws tgt L st) (kf : a = 0 → Wx X k n ws (pc + 3) L st) : Wx X k n ws pc L (.int (iN a) :: st) := by
  have h : -2147483648 ≤ a ∧ a < 2147483648 ∧ -2147483648 ≤ (0 : Int) ∧ (0 : Int) < 2147483648 := by omega
  intro H locs ls hP hD hS hl
  refine lv_if_ne C.hx C.hb d ht (fun q => ?_) (fun q => ?_)
  · have q : ¬ iN a = iN 0 := q
    exact kt (fun e => q ((iN_eq h).mpr e)) H locs ls hP hD hS hl
  · have q : iN a = iN 0 := q
    exact kf ((iN_eq h).mp q) H locs ls hP hD hS hl
theorem x_if_lt (C : Cx X cc nL own Ts rm) {a off : Int} (tgt : Nat) (ht : (pc : Int) + off = (tgt : Int)) (h1 : -2147483648 ≤ a ∧ a < 2147483648) (d : decode cc pc = .ok (.ifCond .lt off, 3)) (kt : a < 0 → Wx X k n ws tgt L st) (kf : 0 ≤ a → Wx X k n ws (pc + 3) L st) : Wx X k n ws pc L (.int (iN a) :: st) := by
  have h : -2147483648 ≤ a ∧ a < 2147483648 ∧ -2147483648 ≤ (0 : Int) ∧ (0 : Int) < 2147483648 := by omega
  intro H locs ls hP hD hS hl
  refine lv_if_lt C.hx C.hb d ht (fun q => ?_) (fun q => ?_)
  · have q : iN a < iN 0 := q
    exact kt ((iN_lt h).mp q) H locs ls hP hD hS hl
  · have q : ¬ iN a < iN 0 := q
    exact kf (Int.not_lt.mp (fun z => q ((iN_lt h).mpr z))) H locs ls hP hD hS hl
theorem x_if_ge (C : Cx X cc nL own Ts rm) {a off : Int} (tgt : Nat) (ht : (pc : Int) + off = (tgt : Int)) (h1 : -2147483648 ≤ a ∧ a < 2147483648) (d : decode cc pc = .ok (.ifCond .ge off, 3)) (kt : 0 ≤ a → Wx X k n ws tgt L st) (kf : a < 0 → Wx X k n ws (pc + 3) L st) : Wx X k n ws pc L (.int (iN a) :: st) := by
  have h : -2147483648 ≤ a ∧ a < 2147483648 ∧ -2147483648 ≤ (0 : Int) ∧ (0 : Int) < 2147483648 := by omega
  intro H locs ls hP hD hS hl
  refine lv_if_ge C.hx C.hb d ht (fun q => ?_) (fun q => ?_)
  · have q : iN 0 ≤ iN a := q
    exact kt ((iN_le ⟨h.2.2.1, h.2.2.2, h.1, h.2.1⟩).mp q) H locs ls hP hD hS hl
  · have q : ¬ iN 0 ≤ iN a := q
    exact kf (Int.not_le.mp (fun z => q ((iN_le ⟨h.2.2.1, h.2.2.2, h.1, h.2.1⟩).mpr z))) H locs ls hP hD hS hl
theorem x_if_gt (C : Cx X cc nL own Ts rm) {a off : Int} (tgt : Nat) (ht : (pc : Int) + off = (tgt : Int)) (h1 : -2147483648 ≤ a ∧ a < 2147483648) (d : decode cc pc = .ok (.ifCond .gt off, 3)) (kt : 0 < a → Wx X k n ws tgt L st) (kf : a ≤ 0 → Wx X k n ws (pc + 3) L st) : Wx X k n ws pc L (.int (iN a) :: st) := by
  have h : -2147483648 ≤ a ∧ a < 2147483648 ∧ -2147483648 ≤ (0 : Int) ∧ (0 : Int) < 2147483648 := by omega
  intro H locs ls hP hD hS hl
  refine lv_if_gt C.hx C.hb d ht (fun q => ?_) (fun q => ?_)
  · have q : iN 0 < iN a := q
    exact kt ((iN_lt ⟨h.2.2.1, h.2.2.2, h.1, h.2.1⟩).mp q) H locs ls hP hD hS hl
  · have q : ¬ iN 0 < iN a := q
    exact kf (Int.not_lt.mp (fun z => q ((iN_lt ⟨h.2.2.1, h.2.2.2, h.1, h.2.1⟩).mpr z))) H locs ls hP hD hS hl
theorem x_if_le (C : Cx X cc nL own Ts rm) {a off : Int} (tgt : Nat) (ht : (pc : Int) + off = (tgt : Int)) (h1 : -2147483648 ≤ a ∧ a < 2147483648) (d : decode cc pc = .ok (.ifCond .le off, 3)) (kt : a ≤ 0 → Wx X k n ws tgt L st) (kf : 0 < a → Wx X k n ws (pc + 3) L st) : Wx X k n ws pc L (.int (iN a) :: st) := by
  have h : -2147483648 ≤ a ∧ a < 2147483648 ∧ -2147483648 ≤ (0 : Int) ∧ (0 : Int) < 2147483648 := by omega
  intro H locs ls hP hD hS hl
  refine lv_if_le C.hx C.hb d ht (fun q => ?_) (fun q => ?_)
  · have q : iN a ≤ iN 0 := q
    exact kt ((iN_le h).mp q) H locs ls hP hD hS hl
  · have q : ¬ iN a ≤ iN 0 := q
    exact kf (Int.not_le.mp (fun z => q ((iN_le h).mpr z))) H locs ls hP hD hS hl
theorem x_ifeq_bz (C : Cx X cc nL own Ts rm) {P : Prop} [Decidable P] {off : Int} (tgt : Nat) (ht : (pc : Int) + off = (tgt : Int)) (d : decode cc pc = .ok (.ifCond .eq off, 3)) (kt : ¬ P → Wx X k n ws tgt L st) (kf : P → Wx X k n ws (pc + 3) L st) : Wx X k n ws pc L (.int (iN (bz P)) :: st) :=
  x_if_eq C tgt ht (by rcases bz_01 P with h | h <;> rw [h] <;> omega) d (fun q => kt (fun z => by rw [bz_t z] at q; omega)) (fun q => kf (Classical.byContradiction fun z => q (bz_f z)))
theorem x_ifne_bz (C : Cx X cc nL own Ts rm) {P : Prop} [Decidable P] {off : Int} (tgt : Nat) (ht : (pc : Int) + off = (tgt : Int)) (d : decode cc pc = .ok (.ifCond .ne off, 3)) (kt : P → Wx X k n ws tgt L st) (kf : ¬ P → Wx X k n ws (pc + 3) L st) : Wx X k n ws pc L (.int (iN (bz P)) :: st) :=
  x_if_ne C tgt ht (by rcases bz_01 P with h | h <;> rw [h] <;> omega) d (fun q => kt (Classical.byContradiction fun z => q (bz_f z))) (fun q => kf (fun z => by rw [bz_t z] at q; omega))
def cmz (a b : Int) : Int := if b < a then 1 else if a = b then 0 else -1
theorem cmz_r (a b : Int) : -1 ≤ cmz a b ∧ cmz a b ≤ 1 := by
  unfold cmz
  split
  · omega
  · split <;> omega
theorem cmz_eq (a b : Int) : cmz a b = 0 ↔ a = b := by
  unfold cmz
  split
  · omega
  · split <;> omega
theorem cmz_lt (a b : Int) : cmz a b < 0 ↔ a < b := by
  unfold cmz
  split
  · omega
  · split <;> omega
theorem cmz_gt (a b : Int) : 0 < cmz a b ↔ b < a := by
  unfold cmz
  split
  · omega
  · split <;> omega
theorem lg_cmp_iN {a b : Int} (h : -9223372036854775808 ≤ a ∧ a < 9223372036854775808 ∧ -9223372036854775808 ≤ b ∧ b < 9223372036854775808) : lg_cmp (jN a) (jN b) = iN (cmz a b) := by
  have h' : -9223372036854775808 ≤ b ∧ b < 9223372036854775808 ∧ -9223372036854775808 ≤ a ∧ a < 9223372036854775808 := ⟨h.2.2.1, h.2.2.2, h.1, h.2.1⟩
  unfold lg_cmp cmz
  by_cases q : b < a
  · rw [if_pos ((jN_lt h').mpr q), if_pos q]; rfl
  · rw [if_neg (fun z => q ((jN_lt h').mp z)), if_neg q]
    by_cases r : a = b
    · rw [if_pos ((jN_eq h).mpr r), if_pos r]; rfl
    · rw [if_neg (fun z => r ((jN_eq h).mp z)), if_neg r]; rfl
theorem x_lcmp_eq (C : Cx X cc nL own Ts rm) {a b off : Int} (tgt : Nat) (ht : ((pc + 1 : Nat) : Int) + off = (tgt : Int)) (h : -9223372036854775808 ≤ a ∧ a < 9223372036854775808 ∧ -9223372036854775808 ≤ b ∧ b < 9223372036854775808) (d : decode cc pc = .ok (.lcmp, 1)) (d2 : decode cc (pc + 1) = .ok (.ifCond .eq off, 3)) (kt : a = b → Wx X k n ws tgt L st) (kf : a ≠ b → Wx X k n ws (pc + 4) L st) : Wx X k n ws pc L (.long (jN b) :: .long (jN a) :: st) := by
  intro H locs ls hP hD hS hl
  refine W.lcmp C.hx C.hb d ?_
  rw [lg_cmp_iN h]
  have h0 := cmz_r a b
  have h1 := cmz_eq a b
  have h2 := cmz_lt a b
  have h3 := cmz_gt a b
  exact x_if_eq C tgt ht (by omega) d2 (fun q => kt (by omega)) (fun q => kf (by omega)) H locs ls hP hD hS hl
theorem x_lcmp_ne (C : Cx X cc nL own Ts rm) {a b off : Int} (tgt : Nat) (ht : ((pc + 1 : Nat) : Int) + off = (tgt : Int)) (h : -9223372036854775808 ≤ a ∧ a < 9223372036854775808 ∧ -9223372036854775808 ≤ b ∧ b < 9223372036854775808) (d : decode cc pc = .ok (.lcmp, 1)) (d2 : decode cc (pc + 1) = .ok (.ifCond .ne off, 3)) (kt : a ≠ b → Wx X k n ws tgt L st) (kf : a = b → Wx X k n ws (pc + 4) L st) : Wx X k n ws pc L (.long (jN b) :: .long (jN a) :: st) := by
  intro H locs ls hP hD hS hl
  refine W.lcmp C.hx C.hb d ?_
  rw [lg_cmp_iN h]
  have h0 := cmz_r a b
  have h1 := cmz_eq a b
  have h2 := cmz_lt a b
  have h3 := cmz_gt a b
  exact x_if_ne C tgt ht (by omega) d2 (fun q => kt (by omega)) (fun q => kf (by omega)) H locs ls hP hD hS hl
theorem x_lcmp_lt (C : Cx X cc nL own Ts rm) {a b off : Int} (tgt : Nat) (ht : ((pc + 1 : Nat) : Int) + off = (tgt : Int)) (h : -9223372036854775808 ≤ a ∧ a < 9223372036854775808 ∧ -9223372036854775808 ≤ b ∧ b < 9223372036854775808) (d : decode cc pc = .ok (.lcmp, 1)) (d2 : decode cc (pc + 1) = .ok (.ifCond .lt off, 3)) (kt : a < b → Wx X k n ws tgt L st) (kf : b ≤ a → Wx X k n ws (pc + 4) L st) : Wx X k n ws pc L (.long (jN b) :: .long (jN a) :: st) := by
  intro H locs ls hP hD hS hl
  refine W.lcmp C.hx C.hb d ?_
  rw [lg_cmp_iN h]
  have h0 := cmz_r a b
  have h1 := cmz_eq a b
  have h2 := cmz_lt a b
  have h3 := cmz_gt a b
  exact x_if_lt C tgt ht (by omega) d2 (fun q => kt (by omega)) (fun q => kf (by omega)) H locs ls hP hD hS hl
theorem x_lcmp_ge (C : Cx X cc nL own Ts rm) {a b off : Int} (tgt : Nat) (ht : ((pc + 1 : Nat) : Int) + off = (tgt : Int)) (h : -9223372036854775808 ≤ a ∧ a < 9223372036854775808 ∧ -9223372036854775808 ≤ b ∧ b < 9223372036854775808) (d : decode cc pc = .ok (.lcmp, 1)) (d2 : decode cc (pc + 1) = .ok (.ifCond .ge off, 3)) (kt : b ≤ a → Wx X k n ws tgt L st) (kf : a < b → Wx X k n ws (pc + 4) L st) : Wx X k n ws pc L (.long (jN b) :: .long (jN a) :: st) := by
  intro H locs ls hP hD hS hl
  refine W.lcmp C.hx C.hb d ?_
  rw [lg_cmp_iN h]
  have h0 := cmz_r a b
  have h1 := cmz_eq a b
  have h2 := cmz_lt a b
  have h3 := cmz_gt a b
  exact x_if_ge C tgt ht (by omega) d2 (fun q => kt (by omega)) (fun q => kf (by omega)) H locs ls hP hD hS hl
theorem x_lcmp_gt (C : Cx X cc nL own Ts rm) {a b off : Int} (tgt : Nat) (ht : ((pc + 1 : Nat) : Int) + off = (tgt : Int)) (h : -9223372036854775808 ≤ a ∧ a < 9223372036854775808 ∧ -9223372036854775808 ≤ b ∧ b < 9223372036854775808) (d : decode cc pc = .ok (.lcmp, 1)) (d2 : decode cc (pc + 1) = .ok (.ifCond .gt off, 3)) (kt : b < a → Wx X k n ws tgt L st) (kf : a ≤ b → Wx X k n ws (pc + 4) L st) : Wx X k n ws pc L (.long (jN b) :: .long (jN a) :: st) := by
  intro H locs ls hP hD hS hl
  refine W.lcmp C.hx C.hb d ?_
  rw [lg_cmp_iN h]
  have h0 := cmz_r a b
  have h1 := cmz_eq a b
  have h2 := cmz_lt a b
  have h3 := cmz_gt a b
  exact x_if_gt C tgt ht (by omega) d2 (fun q => kt (by omega)) (fun q => kf (by omega)) H locs ls hP hD hS hl
theorem x_lcmp_le (C : Cx X cc nL own Ts rm) {a b off : Int} (tgt : Nat) (ht : ((pc + 1 : Nat) : Int) + off = (tgt : Int)) (h : -9223372036854775808 ≤ a ∧ a < 9223372036854775808 ∧ -9223372036854775808 ≤ b ∧ b < 9223372036854775808) (d : decode cc pc = .ok (.lcmp, 1)) (d2 : decode cc (pc + 1) = .ok (.ifCond .le off, 3)) (kt : a ≤ b → Wx X k n ws tgt L st) (kf : b < a → Wx X k n ws (pc + 4) L st) : Wx X k n ws pc L (.long (jN b) :: .long (jN a) :: st) := by
  intro H locs ls hP hD hS hl
  refine W.lcmp C.hx C.hb d ?_
  rw [lg_cmp_iN h]
  have h0 := cmz_r a b
  have h1 := cmz_eq a b
  have h2 := cmz_lt a b
  have h3 := cmz_gt a b
  exact x_if_le C tgt ht (by omega) d2 (fun q => kt (by omega)) (fun q => kf (by omega)) H locs ls hP hD hS hl
/-! ## rows: fields and arrays -/
theorem x_get (C : Cx X cc nL own Ts rm) {Cn ref : String} {T : u_T} {N ci index a : Nat} (hin : ∀ w ∈ u_ws Cn T N, w ∈ Ts) (q0 : Nat) {fs : List Value} (he : ws[q0]? = some (a, ob ci fs)) (hc : vwCl[ci]? = some (Cn, T, N)) (j : Nat) (hj : j < N) (hlink : Cond.fieldLink own index ref (T j).2.1 (T j).2.2.1 ∈ Ts) (hsame : ref = (T j).1) {v : Value} (hv : fs[j]? = some v) (d : decode cc pc = .ok (.getfield index, 3)) (kk : Wx X k n ws (pc + 3) L (v :: st)) : Wx X k n ws pc L (.ref a :: st) :=
  fun H locs ls hP hD hS hl => va_get C.hx C.hb C.hts hin C.hown C.hK.1 hP q0 he hc j hj (C.hts _ hlink) (fun x h => by rw [hsame]; exact h) hv d (kk H locs ls hP hD hS hl)
theorem x_put (C : Cx X cc nL own Ts rm) {Cn ref : String} {T : u_T} {N ci index a : Nat} (hin : ∀ w ∈ u_ws Cn T N, w ∈ Ts) (ty0 : Nat → FieldType) (hty : ∀ k, k < N → parseFieldDescriptor (T k).2.2.1 = some (ty0 k)) (hnm : ∀ a, a < N → ∀ b, b < N → a ≠ b → (T a).2.1 ≠ (T b).2.1) (q0 : Nat) {fs : List Value} (he : ws[q0]? = some (a, ob ci fs)) (hc : vwCl[ci]? = some (Cn, T, N)) (j : Nat) (hj : j < N) (hlink : Cond.fieldLink own index ref (T j).2.1 (T j).2.2.1 ∈ Ts) (hsame : ref = (T j).1) (hfin : (T j).2.2.2 = false) {ty : FieldType} {v : Value} (hd : parseFieldDescriptor (T j).2.2.1 = some ty) (hn : narrow ty v = v) (hfit : fits ty v = true) (hl0 : j < fs.length) (ws' : va_W) (hw : ws.set q0 (a, ob ci (fs.set j v)) = ws') (d : decode cc pc = .ok (.putfield index, 3)) (kk : Wx X k n ws' (pc + 3) L st) : Wx X k n ws pc L (v :: .ref a :: st) := by
  intro H locs ls hP hD hS hl
  subst hw
  exact va_put C.hx C.hb C.hts hin ty0 hty hnm C.hown C.hK.1 hP hD hS q0 he hc j hj (C.hts _ hlink) (fun x h => by rw [hsame]; exact h) hfin hd hn hfit hl0 d (fun H1 locs1 hP hD hS => kk H1 locs1 ls hP hD hS hl)
theorem x_putF (C : Cx X cc nL own Ts rm) (hinit : X.meth.name = "<init>") {Cn ref : String} {T : u_T} {N ci index a : Nat} (hin : ∀ w ∈ u_ws Cn T N, w ∈ Ts) (ty0 : Nat → FieldType) (hty : ∀ k, k < N → parseFieldDescriptor (T k).2.2.1 = some (ty0 k)) (hnm : ∀ a, a < N → ∀ b, b < N → a ≠ b → (T a).2.1 ≠ (T b).2.1) (q0 : Nat) {fs : List Value} (he : ws[q0]? = some (a, ob ci fs)) (hc : vwCl[ci]? = some (Cn, T, N)) (j : Nat) (hj : j < N) (hlink : Cond.fieldLink own index ref (T j).2.1 (T j).2.2.1 ∈ Ts) (hsame : ref = (T j).1) (hfin : (T j).2.2.2 = true) (hdecl : (T j).1 = own) {ty : FieldType} {v : Value} (hd : parseFieldDescriptor (T j).2.2.1 = some ty) (hn : narrow ty v = v) (hfit : fits ty v = true) (hl0 : j < fs.length) (ws' : va_W) (hw : ws.set q0 (a, ob ci (fs.set j v)) = ws') (d : decode cc pc = .ok (.putfield index, 3)) (kk : Wx X k n ws' (pc + 3) L st) : Wx X k n ws pc L (v :: .ref a :: st) := by
  intro H locs ls hP hD hS hl
  subst hw
  exact va_putF C.hx C.hb C.hts hin ty0 hty hnm C.hown C.hK.1 hP hD hS q0 he hc j hj (C.hts _ hlink) (fun x h => by rw [hsame]; exact h) hfin hinit hdecl hd hn hfit hl0 d (fun H1 locs1 hP hD hS => kk H1 locs1 ls hP hD hS hl)
theorem aI_upd (γ : GX) (N : Nat) (f : Int → Int) {i v : Int} (h : 0 ≤ i ∧ i < 2147483648) : (Sum.inl (γ.2.1, N, .inl (upd (fun k : Nat => iN (f (k : Int))) (iN i).toNatClampNeg (iN v))) : va_E) = aI γ N (upz f i v) := by
  have e : upd (fun k : Nat => iN (f (k : Int))) (iN i).toNatClampNeg (iN v) = fun k : Nat => iN (upz f i v (k : Int)) := by
    funext j
    rw [iN_clamp (by omega)]
    by_cases q : (j : Int) = i
    · have q2 : j = i.toNat := by omega
      subst q2
      rw [pk_us]
      rw [q, upz_s]
    · rw [pk_un (by omega), upz_n q]
  rw [e]
  rfl
theorem aJ_upd (γ : GX) (N : Nat) (f : Int → Int) {i v : Int} (h : 0 ≤ i ∧ i < 2147483648) : (Sum.inl (γ.2.2.1, N, .inr (.inl (vp_updL (fun k : Nat => jN (f (k : Int))) (iN i).toNatClampNeg (jN v)))) : va_E) = aJ γ N (upz f i v) := by
  have e : vp_updL (fun k : Nat => jN (f (k : Int))) (iN i).toNatClampNeg (jN v) = fun k : Nat => jN (upz f i v (k : Int)) := by
    funext j
    rw [iN_clamp (by omega)]
    by_cases q : (j : Int) = i
    · have q2 : j = i.toNat := by omega
      subst q2
      rw [pk_uLs]
      rw [q, upz_s]
    · rw [pk_uLn (by omega), upz_n q]
  rw [e]
  rfl
theorem x_iaload (C : Cx X cc nL own Ts rm) {N a : Nat} {f : Int → Int} {i : Int} (q0 : Nat) (he : ws[q0]? = some (a, aI X.γ N f)) (h : 0 ≤ i ∧ i < (N : Int)) (hn : N.ble 2147483647 = true) (d : decode cc pc = .ok (.iaload, 1)) (kk : Wx X k n ws (pc + 1) L (.int (iN (f i)) :: st)) : Wx X k n ws pc L (.int (iN i) :: .ref a :: st) := by
  intro H locs ls hP hD hS hl
  have hn' : N ≤ 2147483647 := Nat.le_of_ble_eq_true hn
  refine va_iald C.hx C.hb C.hK.1 hP q0 0 (cA := X.γ.2.1) (n := N) (f := fun k : Nat => iN (f (k : Int))) he rfl (iN_vin h hn) d ?_
  rw [show (iN i).toNatClampNeg = i.toNat from iN_clamp (by omega)]
  show W _ _ _ _ _ _ _ _ _ _ _ _ _ _ _ (F0 _ _ _ (.int (iN (f ((i.toNat : Nat) : Int))) :: st))
  rw [show ((i.toNat : Nat) : Int) = i by omega]
  exact kk H locs ls hP hD hS hl
theorem x_laload (C : Cx X cc nL own Ts rm) {N a : Nat} {f : Int → Int} {i : Int} (q0 : Nat) (he : ws[q0]? = some (a, aJ X.γ N f)) (h : 0 ≤ i ∧ i < (N : Int)) (hn : N.ble 2147483647 = true) (d : decode cc pc = .ok (.laload, 1)) (kk : Wx X k n ws (pc + 1) L (.long (jN (f i)) :: st)) : Wx X k n ws pc L (.int (iN i) :: .ref a :: st) := by
  intro H locs ls hP hD hS hl
  have hn' : N ≤ 2147483647 := Nat.le_of_ble_eq_true hn
  refine va_lald C.hx C.hb C.hK.1 hP q0 1 (cA := X.γ.2.2.1) (n := N) (f := fun k : Nat => jN (f (k : Int))) he rfl (iN_vin h hn) d ?_
  rw [show (iN i).toNatClampNeg = i.toNat from iN_clamp (by omega)]
  show W _ _ _ _ _ _ _ _ _ _ _ _ _ _ _ (F0 _ _ _ (.long (jN (f ((i.toNat : Nat) : Int))) :: st))
  rw [show ((i.toNat : Nat) : Int) = i by omega]
  exact kk H locs ls hP hD hS hl
theorem x_iastore (C : Cx X cc nL own Ts rm) {N a : Nat} {f : Int → Int} {i v : Int} (q0 : Nat) (he : ws[q0]? = some (a, aI X.γ N f)) (h : 0 ≤ i ∧ i < (N : Int)) (hn : N.ble 2147483647 = true) (ws' : va_W) (hw : ws.set q0 (a, aI X.γ N (upz f i v)) = ws') (d : decode cc pc = .ok (.iastore, 1)) (kk : Wx X k n ws' (pc + 1) L st) : Wx X k n ws pc L (.int (iN v) :: .int (iN i) :: .ref a :: st) := by
  intro H locs ls hP hD hS hl
  have hn' : N ≤ 2147483647 := Nat.le_of_ble_eq_true hn
  refine va_iast C.hx C.hb C.hK.1 hP hD hS q0 0 (cA := X.γ.2.1) (n := N) (f := fun k : Nat => iN (f (k : Int))) he rfl (iN_vin h hn) d (fun H1 locs1 hP hD hS => ?_)
  rw [aI_upd X.γ N f (by omega), hw] at hP hD
  exact kk H1 locs1 ls hP hD hS hl
theorem x_lastore (C : Cx X cc nL own Ts rm) {N a : Nat} {f : Int → Int} {i v : Int} (q0 : Nat) (he : ws[q0]? = some (a, aJ X.γ N f)) (h : 0 ≤ i ∧ i < (N : Int)) (hn : N.ble 2147483647 = true) (ws' : va_W) (hw : ws.set q0 (a, aJ X.γ N (upz f i v)) = ws') (d : decode cc pc = .ok (.lastore, 1)) (kk : Wx X k n ws' (pc + 1) L st) : Wx X k n ws pc L (.long (jN v) :: .int (iN i) :: .ref a :: st) := by
  intro H locs ls hP hD hS hl
  have hn' : N ≤ 2147483647 := Nat.le_of_ble_eq_true hn
  refine va_last C.hx C.hb C.hK.1 hP hD hS q0 1 (cA := X.γ.2.2.1) (n := N) (f := fun k : Nat => jN (f (k : Int))) he rfl (iN_vin h hn) d (fun H1 locs1 hP hD hS => ?_)
  rw [aJ_upd X.γ N f (by omega), hw] at hP hD
  exact kk H1 locs1 ls hP hD hS hl
theorem x_aaload (C : Cx X cc nL own Ts rm) {N a b : Nat} {f : Int → Option Nat} {i : Int} (q0 : Nat) (he : ws[q0]? = some (a, aS X.γ N f)) (h : 0 ≤ i ∧ i < (N : Int)) (hn : N.ble 2147483647 = true) (hb : f i = some b) (d : decode cc pc = .ok (.aaload, 1)) (kk : Wx X k n ws (pc + 1) L (.ref b :: st)) : Wx X k n ws pc L (.int (iN i) :: .ref a :: st) := by
  intro H locs ls hP hD hS hl
  have hn' : N ≤ 2147483647 := Nat.le_of_ble_eq_true hn
  refine va_aldq C.hx C.hb C.hK.1 hP q0 2 (cA := X.γ.2.2.2.1) (n := N) (f := fun k : Nat => f (k : Int)) (C := RX5) he rfl (iN_vin h hn) d ?_
  rw [show (iN i).toNatClampNeg = i.toNat from iN_clamp (by omega)]
  show W _ _ _ _ _ _ _ _ _ _ _ _ _ _ _ (F0 _ _ _ (va_rf (f ((i.toNat : Nat) : Int)) :: st))
  rw [show ((i.toNat : Nat) : Int) = i by omega, hb]
  exact kk H locs ls hP hD hS hl
theorem x_aaloadW (C : Cx X cc nL own Ts rm) {N a b : Nat} {f : Int → Option Nat} {i : Int} (q0 : Nat) (he : ws[q0]? = some (a, aW X.γ N f)) (h : 0 ≤ i ∧ i < (N : Int)) (hn : N.ble 2147483647 = true) (hb : f i = some b) (d : decode cc pc = .ok (.aaload, 1)) (kk : Wx X k n ws (pc + 1) L (.ref b :: st)) : Wx X k n ws pc L (.int (iN i) :: .ref a :: st) := by
  intro H locs ls hP hD hS hl
  have hn' : N ≤ 2147483647 := Nat.le_of_ble_eq_true hn
  refine va_aldq C.hx C.hb C.hK.1 hP q0 3 (cA := X.γ.2.2.2.2) (n := N) (f := fun k : Nat => f (k : Int)) (C := RX9) he rfl (iN_vin h hn) d ?_
  rw [show (iN i).toNatClampNeg = i.toNat from iN_clamp (by omega)]
  show W _ _ _ _ _ _ _ _ _ _ _ _ _ _ _ (F0 _ _ _ (va_rf (f ((i.toNat : Nat) : Int)) :: st))
  rw [show ((i.toNat : Nat) : Int) = i by omega, hb]
  exact kk H locs ls hP hD hS hl
end HKIT
