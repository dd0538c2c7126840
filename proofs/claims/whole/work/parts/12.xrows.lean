section HXROWS
variable {X : CX} {cc : ByteArray} {nL : Nat} {own : String} {Ts : List Cond} {rm : Room} {k n : Nat} {ws : va_W} {pc : Nat} {L : List (Nat × Value)} {st : List Value}
theorem x_alen (C : Cx X cc nL own Ts rm) {N a : Nat} {f : Int → Int} (q0 : Nat) (he : ws[q0]? = some (a, aI X.γ N f)) (d : decode cc pc = .ok (.arraylength, 1)) (kk : Wx X k n ws (pc + 1) L (.int (iN (N : Int)) :: st)) : Wx X k n ws pc L (.ref a :: st) := by
  intro H locs ls hP hD hS hl
  exact va_alen C.hx C.hb C.hK.1 hP q0 0 (cA := X.γ.2.1) (x := (N, .inl (fun k : Nat => iN (f (k : Int))))) (ty := .int) (v := iN (N : Int)) he rfl (iN_nat N).symm d (kk H locs ls hP hD hS hl)
theorem x_lookup (C : Cx X cc nL own Ts rm) {a dflt : Int} {ps : Array (Int × Int)} {len : Nat} (tgt : Nat) (off : Int) (h : -2147483648 ≤ a ∧ a < 2147483648) (hp : (ps.toList.zip (ps.toList.drop 1)).all (fun (a, next) => a.1 < next.1) = true) (ho : Op.lookupswitch.offset ps.toList dflt a = off) (ht : (pc : Int) + off = (tgt : Int)) (d : decode cc pc = .ok (.lookupswitch dflt ps, len)) (kk : Wx X k n ws tgt L st) : Wx X k n ws pc L (.int (iN a) :: st) :=
  fun H locs ls hP hD hS hl => lv_lookup C.hx C.hb d hp (by rw [iN_toInt h]; exact ho) ht (kk H locs ls hP hD hS hl)
theorem x_tabOut (C : Cx X cc nL own Ts rm) {a dflt lo hi : Int} {offs : Array Int} {len : Nat} (tgt : Nat) (h : -2147483648 ≤ a ∧ a < 2147483648) (h1 : a < lo ∨ hi < a) (ht : (pc : Int) + dflt = (tgt : Int)) (d : decode cc pc = .ok (.tableswitch dflt lo hi offs, len)) (kk : Wx X k n ws tgt L st) : Wx X k n ws pc L (.int (iN a) :: st) :=
  fun H locs ls hP hD hS hl => lv_tableOut C.hx C.hb d (by rw [iN_toInt h]; exact h1) ht (kk H locs ls hP hD hS hl)
theorem x_tabIn (C : Cx X cc nL own Ts rm) {a dflt lo hi : Int} {offs : Array Int} {len : Nat} (tgt : Nat) (off : Int) (h : -2147483648 ≤ a ∧ a < 2147483648) (h1 : lo ≤ a) (h2 : a ≤ hi) (ho : offs[(a - lo).toNat]? = some off) (ht : (pc : Int) + off = (tgt : Int)) (d : decode cc pc = .ok (.tableswitch dflt lo hi offs, len)) (kk : Wx X k n ws tgt L st) : Wx X k n ws pc L (.int (iN a) :: st) :=
  fun H locs ls hP hD hS hl => lv_tableIn C.hx C.hb d (by rw [iN_toInt h]; omega) (by rw [iN_toInt h]; omega) (by rw [iN_toInt h]; exact ho) ht (kk H locs ls hP hD hS hl)
/-! ## narrow numbers, shelves -/
def nbz (v : Int) : Int := ((iN v).toInt8.toInt32).toInt
def nsz (v : Int) : Int := ((iN v).toInt16.toInt32).toInt
theorem nbz_e (v : Int) : (iN v).toInt8.toInt32 = iN (nbz v) := (iN_of _).symm
theorem nsz_e (v : Int) : (iN v).toInt16.toInt32 = iN (nsz v) := (iN_of _).symm
theorem nbz_b (v : Int) : -2147483648 ≤ nbz v ∧ nbz v ≤ 2147483647 := ⟨by have := ((iN v).toInt8.toInt32).le_toInt; unfold nbz; omega, by have := ((iN v).toInt8.toInt32).toInt_lt; unfold nbz; omega⟩
theorem nsz_b (v : Int) : -2147483648 ≤ nsz v ∧ nsz v ≤ 2147483647 := ⟨by have := ((iN v).toInt16.toInt32).le_toInt; unfold nsz; omega, by have := ((iN v).toInt16.toInt32).toInt_lt; unfold nsz; omega⟩
/-- what an element of a sort keeps of v -/
def nar (so v : Int) : Int := if so = 0 then nbz v else if so = 1 then nsz v else v
theorem nar_b {so v : Int} (h : -2147483648 ≤ v ∧ v ≤ 2147483647) : -2147483648 ≤ nar so v ∧ nar so v ≤ 2147483647 := by
  have := nbz_b v
  have := nsz_b v
  unfold nar
  omega
/-- the least of a sort -/
def lsz (so : Int) : Int := if so = 0 then -128 else if so = 1 then -32768 else -2147483648
abbrev Sh : Type := Int × Int × Int × Int × Int × (Int → Int)
abbrev Sh.hd (S : Sh) : Int := S.1
abbrev Sh.kd (S : Sh) : Int := S.2.1
abbrev Sh.fg (S : Sh) : Int := S.2.2.1
abbrev Sh.so (S : Sh) : Int := S.2.2.2.1
abbrev Sh.sz (S : Sh) : Int := S.2.2.2.2.1
abbrev Sh.va (S : Sh) : Int → Int := S.2.2.2.2.2
abbrev Sh.set_hd (S : Sh) (v : Int) : Sh := (v, Sh.kd S, Sh.fg S, Sh.so S, Sh.sz S, Sh.va S)
abbrev Sh.set_kd (S : Sh) (v : Int) : Sh := (Sh.hd S, v, Sh.fg S, Sh.so S, Sh.sz S, Sh.va S)
abbrev Sh.set_fg (S : Sh) (v : Int) : Sh := (Sh.hd S, Sh.kd S, v, Sh.so S, Sh.sz S, Sh.va S)
abbrev Sh.set_so (S : Sh) (v : Int) : Sh := (Sh.hd S, Sh.kd S, Sh.fg S, v, Sh.sz S, Sh.va S)
abbrev Sh.set_sz (S : Sh) (v : Int) : Sh := (Sh.hd S, Sh.kd S, Sh.fg S, Sh.so S, v, Sh.va S)
abbrev Sh.set_va (S : Sh) (v : Int → Int) : Sh := (Sh.hd S, Sh.kd S, Sh.fg S, Sh.so S, Sh.sz S, v)
/-- a shelf's cells: the object, its values -/
def SH (γ : GX) (s : Nat → Nat) (S : Sh) : va_W := [(s 0, ob 5 [.int (iN (Sh.hd S)), .int (iN (Sh.kd S)), .int (iN (Sh.fg S)), .int (iN (Sh.so S)), .int (iN (Sh.sz S)), .ref (s 1)]), (s 1, aI γ 100 (Sh.va S))]
def WFs (S : Sh) : Prop := (0 ≤ Sh.hd S ∧ Sh.hd S ≤ 2) ∧ (0 ≤ Sh.kd S ∧ Sh.kd S ≤ 7) ∧ (0 ≤ Sh.fg S ∧ Sh.fg S ≤ 9) ∧ (0 ≤ Sh.so S ∧ Sh.so S ≤ 2) ∧ (0 ≤ Sh.sz S ∧ Sh.sz S ≤ 100) ∧ bd (Sh.va S) (-2147483648) 2147483647
theorem WFs.so {S : Sh} (h : WFs S) : 0 ≤ Sh.so S ∧ Sh.so S ≤ 2 := h.2.2.2.1
theorem WFs.sz {S : Sh} (h : WFs S) : 0 ≤ Sh.sz S ∧ Sh.sz S ≤ 100 := h.2.2.2.2.1
theorem WFs.va {S : Sh} (h : WFs S) : bd (Sh.va S) (-2147483648) 2147483647 := h.2.2.2.2.2
/-- an element, 0 where none is -/
def Sh.vz (S : Sh) (i : Int) : Int := if 0 ≤ i ∧ i ≤ Sh.sz S - 1 then Sh.va S i else 0
theorem WFs.vz {S : Sh} (h : WFs S) (i : Int) : -2147483648 ≤ Sh.vz S i ∧ Sh.vz S i ≤ 2147483647 := by
  have := h.va i
  simp only [Sh.vz]
  omega
/-- the number that so many digits from a place on are -/
def numz (v : Int → Int) (p : Int) : Nat → Int
  | 0 => 0
  | k + 1 => numz v p k * 10 + v (p + (k : Int)) - 48
/-- how many digits stand behind a letter -/
def dgz (c : Int) : Int := if c = 103 then 4 else if c = 119 then 7 else if c = 109 then 3 else if c = 121 then 2 else if c = 100 then 2 else -1
theorem dgz_b (c : Int) : -1 ≤ dgz c ∧ dgz c ≤ 7 := by unfold dgz; omega
/-! ## texts -/
/-- a fact that is kept from omega -/
def hid (P : Prop) : Prop := P
abbrev dig (c : Int) : Prop := 48 ≤ c ∧ c ≤ 57
/-- how many of the m first from q on are digits, one behind the other -/
def ldz (v : Int → Int) (q : Int) : Nat → Nat
  | 0 => 0
  | m + 1 => if dig (v q) then ldz v (q + 1) m + 1 else 0
/-- the place of a fault of kind 1 in the statement at p; -1: none -/
def sbad (v : Int → Int) (p : Int) : Int :=
  if dgz (v p) < 0 then p else if ldz v (p + 1) (dgz (v p)).toNat < (dgz (v p)).toNat then p + 1 + (ldz v (p + 1) (dgz (v p)).toNat : Int) else if v (p + 1 + dgz (v p)) ≠ 59 then p + 1 + dgz (v p) else -1
def fbad (v : Int → Int) (sz : Int) : Nat → Int → Int
  | 0, _ => -1
  | k + 1, p => if 0 ≤ sbad v p then sbad v p else if p + dgz (v p) + 2 < sz then fbad v sz k (p + dgz (v p) + 2) else -1
theorem fbad_bad {v : Int → Int} {sz p e : Int} (k : Nat) (h : sbad v p = e) (he : 0 ≤ e) : fbad v sz (k + 1) p = e := by
  simp only [fbad]
  rw [h, if_pos he]
end HXROWS
