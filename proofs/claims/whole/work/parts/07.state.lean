section HSTATE
theorem fits_z {a : Int} (h : a = 0 ∨ a = 1) : fits .boolean (.int (iN a)) = true := by
  rcases h with rfl | rfl <;> rfl
abbrev Ct : Type := (Int → Int) × Int × Int × (Int → Int) × (Int → Int) × (Int → Int) × (Int → Int) × (Int → Int) × (Int → Int) × (Int → Int) × (Int → Int) × (Int → Int)
abbrev Ct.h (C : Ct) : Int → Int := C.1
abbrev Ct.n (C : Ct) : Int := C.2.1
abbrev Ct.dy (C : Ct) : Int := C.2.2.1
abbrev Ct.kd (C : Ct) : Int → Int := C.2.2.2.1
abbrev Ct.fg (C : Ct) : Int → Int := C.2.2.2.2.1
abbrev Ct.ag (C : Ct) : Int → Int := C.2.2.2.2.2.1
abbrev Ct.po (C : Ct) : Int → Int := C.2.2.2.2.2.2.1
abbrev Ct.wy (C : Ct) : Int → Int := C.2.2.2.2.2.2.2.1
abbrev Ct.pr (C : Ct) : Int → Int := C.2.2.2.2.2.2.2.2.1
abbrev Ct.sp (C : Ct) : Int → Int := C.2.2.2.2.2.2.2.2.2.1
abbrev Ct.sr (C : Ct) : Int → Int := C.2.2.2.2.2.2.2.2.2.2.1
abbrev Ct.wa (C : Ct) : Int → Int := C.2.2.2.2.2.2.2.2.2.2.2
abbrev Ct.set_h (C : Ct) (v : Int → Int) : Ct := (v, Ct.n C, Ct.dy C, Ct.kd C, Ct.fg C, Ct.ag C, Ct.po C, Ct.wy C, Ct.pr C, Ct.sp C, Ct.sr C, Ct.wa C)
abbrev Ct.set_n (C : Ct) (v : Int) : Ct := (Ct.h C, v, Ct.dy C, Ct.kd C, Ct.fg C, Ct.ag C, Ct.po C, Ct.wy C, Ct.pr C, Ct.sp C, Ct.sr C, Ct.wa C)
abbrev Ct.set_dy (C : Ct) (v : Int) : Ct := (Ct.h C, Ct.n C, v, Ct.kd C, Ct.fg C, Ct.ag C, Ct.po C, Ct.wy C, Ct.pr C, Ct.sp C, Ct.sr C, Ct.wa C)
abbrev Ct.set_kd (C : Ct) (v : Int → Int) : Ct := (Ct.h C, Ct.n C, Ct.dy C, v, Ct.fg C, Ct.ag C, Ct.po C, Ct.wy C, Ct.pr C, Ct.sp C, Ct.sr C, Ct.wa C)
abbrev Ct.set_fg (C : Ct) (v : Int → Int) : Ct := (Ct.h C, Ct.n C, Ct.dy C, Ct.kd C, v, Ct.ag C, Ct.po C, Ct.wy C, Ct.pr C, Ct.sp C, Ct.sr C, Ct.wa C)
abbrev Ct.set_ag (C : Ct) (v : Int → Int) : Ct := (Ct.h C, Ct.n C, Ct.dy C, Ct.kd C, Ct.fg C, v, Ct.po C, Ct.wy C, Ct.pr C, Ct.sp C, Ct.sr C, Ct.wa C)
abbrev Ct.set_po (C : Ct) (v : Int → Int) : Ct := (Ct.h C, Ct.n C, Ct.dy C, Ct.kd C, Ct.fg C, Ct.ag C, v, Ct.wy C, Ct.pr C, Ct.sp C, Ct.sr C, Ct.wa C)
abbrev Ct.set_wy (C : Ct) (v : Int → Int) : Ct := (Ct.h C, Ct.n C, Ct.dy C, Ct.kd C, Ct.fg C, Ct.ag C, Ct.po C, v, Ct.pr C, Ct.sp C, Ct.sr C, Ct.wa C)
abbrev Ct.set_pr (C : Ct) (v : Int → Int) : Ct := (Ct.h C, Ct.n C, Ct.dy C, Ct.kd C, Ct.fg C, Ct.ag C, Ct.po C, Ct.wy C, v, Ct.sp C, Ct.sr C, Ct.wa C)
abbrev Ct.set_sp (C : Ct) (v : Int → Int) : Ct := (Ct.h C, Ct.n C, Ct.dy C, Ct.kd C, Ct.fg C, Ct.ag C, Ct.po C, Ct.wy C, Ct.pr C, v, Ct.sr C, Ct.wa C)
abbrev Ct.set_sr (C : Ct) (v : Int → Int) : Ct := (Ct.h C, Ct.n C, Ct.dy C, Ct.kd C, Ct.fg C, Ct.ag C, Ct.po C, Ct.wy C, Ct.pr C, Ct.sp C, v, Ct.wa C)
abbrev Ct.set_wa (C : Ct) (v : Int → Int) : Ct := (Ct.h C, Ct.n C, Ct.dy C, Ct.kd C, Ct.fg C, Ct.ag C, Ct.po C, Ct.wy C, Ct.pr C, Ct.sp C, Ct.sr C, v)
/-- a country's cells: the object; heights; kind figure age at way press spread stride; waters. a 11: the kinds -/
def CT (γ : GX) (a : Nat → Nat) (C : Ct) : va_W :=
  [(a 0, ob 1 [.ref (a 11), .ref (a 1), .int (iN (Ct.n C)), .int (iN (Ct.dy C)), .ref (a 2), .ref (a 3), .ref (a 4), .ref (a 5), .ref (a 6), .ref (a 7), .ref (a 8), .ref (a 9), .ref (a 10)]),
   (a 1, aI γ 15 (Ct.h C)), (a 2, aI γ 6 (Ct.kd C)), (a 3, aI γ 6 (Ct.fg C)), (a 4, aI γ 6 (Ct.ag C)), (a 5, aI γ 6 (Ct.po C)), (a 6, aI γ 6 (Ct.wy C)), (a 7, aI γ 6 (Ct.pr C)), (a 8, aI γ 6 (Ct.sp C)), (a 9, aI γ 6 (Ct.sr C)), (a 10, aI γ 15 (Ct.wa C))]
def bd (f : Int → Int) (lo hi : Int) : Prop := ∀ i, lo ≤ f i ∧ f i ≤ hi
theorem bd_upz {f : Int → Int} {lo hi i v : Int} (h : bd f lo hi) (hv : lo ≤ v ∧ v ≤ hi) : bd (upz f i v) lo hi := by
  intro j
  by_cases q : j = i
  · rw [q, upz_s]; exact hv
  · rw [upz_n q]; exact h j
/-- what a country keeps -/
def WFc (C : Ct) : Prop := (0 ≤ Ct.n C ∧ Ct.n C ≤ 6) ∧ bd (Ct.h C) 0 20 ∧ bd (Ct.kd C) 0 7 ∧ bd (Ct.fg C) 0 9 ∧ bd (Ct.ag C) 0 120 ∧ bd (Ct.po C) 0 14 ∧ bd (Ct.wy C) (-1) 1 ∧ bd (Ct.pr C) 0 16 ∧ bd (Ct.sp C) 0 2 ∧ bd (Ct.sr C) 0 6
theorem WFc.n {C : Ct} (h : WFc C) : 0 ≤ Ct.n C ∧ Ct.n C ≤ 6 := h.1
theorem WFc.h {C : Ct} (h : WFc C) : bd (Ct.h C) 0 20 := h.2.1
theorem WFc.kd {C : Ct} (h : WFc C) : bd (Ct.kd C) 0 7 := h.2.2.1
theorem WFc.fg {C : Ct} (h : WFc C) : bd (Ct.fg C) 0 9 := h.2.2.2.1
theorem WFc.ag {C : Ct} (h : WFc C) : bd (Ct.ag C) 0 120 := h.2.2.2.2.1
theorem WFc.po {C : Ct} (h : WFc C) : bd (Ct.po C) 0 14 := h.2.2.2.2.2.1
theorem WFc.wy {C : Ct} (h : WFc C) : bd (Ct.wy C) (-1) 1 := h.2.2.2.2.2.2.1
theorem WFc.pr {C : Ct} (h : WFc C) : bd (Ct.pr C) 0 16 := h.2.2.2.2.2.2.2.1
theorem WFc.sp {C : Ct} (h : WFc C) : bd (Ct.sp C) 0 2 := h.2.2.2.2.2.2.2.2.1
theorem WFc.sr {C : Ct} (h : WFc C) : bd (Ct.sr C) 0 6 := h.2.2.2.2.2.2.2.2.2
theorem WFc.mk {C : Ct} (h0 : 0 ≤ Ct.n C ∧ Ct.n C ≤ 6) (h1 : bd (Ct.h C) 0 20) (h2 : bd (Ct.kd C) 0 7) (h3 : bd (Ct.fg C) 0 9) (h4 : bd (Ct.ag C) 0 120) (h5 : bd (Ct.po C) 0 14) (h6 : bd (Ct.wy C) (-1) 1) (h7 : bd (Ct.pr C) 0 16) (h8 : bd (Ct.sp C) 0 2) (h9 : bd (Ct.sr C) 0 6) : WFc C := ⟨h0, h1, h2, h3, h4, h5, h6, h7, h8, h9⟩
/-! ## the ground -/
/-- what one at po presses at cell c -/
def ones (po pr sp : Int → Int) (c i : Int) : Int := if (if po i < c then c - po i else po i - c) ≤ sp i ∧ (if po i < c then c - po i else po i - c) < pr i then pr i - (if po i < c then c - po i else po i - c) else 0
def psm (po pr sp : Int → Int) (c : Int) : Nat → Int
  | 0 => 0
  | k + 1 => psm po pr sp c k + ones po pr sp c (k : Int)
def gnd (h : Int → Int) (n : Int) (po pr sp : Int → Int) (c : Int) : Int := if h c - psm po pr sp c n.toNat < 0 then 0 else h c - psm po pr sp c n.toNat
theorem ones_b {po pr sp : Int → Int} (hp : bd pr 0 16) (c i : Int) : 0 ≤ ones po pr sp c i ∧ ones po pr sp c i ≤ 16 := by
  have h := hp i
  unfold ones
  split <;> split at * <;> omega
theorem psm_b {po pr sp : Int → Int} (hp : bd pr 0 16) (c : Int) : ∀ k : Nat, 0 ≤ psm po pr sp c k ∧ psm po pr sp c k ≤ 16 * (k : Int)
  | 0 => by simp [psm]
  | k + 1 => by
    have h1 := psm_b (po := po) (sp := sp) hp c k
    have h2 := ones_b (po := po) (sp := sp) hp c (k : Int)
    simp only [psm]
    omega
theorem gnd_b {h : Int → Int} {n : Int} {po pr sp : Int → Int} (hh : bd h 0 20) (hp : bd pr 0 16) (c : Int) : 0 ≤ gnd h n po pr sp c ∧ gnd h n po pr sp c ≤ 20 := by
  have h1 := hh c
  have h2 := psm_b (po := po) (sp := sp) hp c n.toNat
  unfold gnd
  split <;> omega
/-- the ground of a country -/
abbrev Ct.g (C : Ct) (c : Int) : Int := gnd (Ct.h C) (Ct.n C) (Ct.po C) (Ct.pr C) (Ct.sp C) c
theorem WFc.g {C : Ct} (h : WFc C) (c : Int) : 0 ≤ Ct.g C c ∧ Ct.g C c ≤ 20 := gnd_b h.h h.pr c
end HSTATE
