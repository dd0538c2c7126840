section HSPEC1
/-! ## days -/
abbrev Dv : Type := (Int → Int) × (Int → Int) × Int
/-- may one go: there is a cell, and it isn't too high -/
abbrev mgo (h : Int → Int) (n : Int) (pr sp sr po : Int → Int) (i b : Int) : Prop := (0 ≤ po i + b ∧ po i + b ≤ 14) ∧ gnd h n po pr sp (po i + b) - gnd h n po pr sp (po i) ≤ sr i
/-- one's part of a day -/
def stp (h : Int → Int) (n : Int) (pr sp sr : Int → Int) (d : Dv) (i : Int) : Dv :=
  if 0 ≤ d.1 i + d.2.1 i ∧ d.1 i + d.2.1 i ≤ 14 then
    (if d.2.1 i ≠ 0 ∧ mgo h n pr sp sr d.1 i (d.2.1 i) then (upz d.1 i (d.1 i + d.2.1 i), d.2.1, 1) else d)
  else (d.1, upz d.2.1 i 0, d.2.2)
def dayS (h : Int → Int) (n : Int) (pr sp sr : Int → Int) (d : Dv) : Nat → Dv
  | 0 => d
  | k + 1 => stp h n pr sp sr (dayS h n pr sp sr d k) (k : Int)
def okD (d : Dv) : Prop := bd d.1 0 14 ∧ bd d.2.1 (-1) 1 ∧ (d.2.2 = 0 ∨ d.2.2 = 1)
theorem stp_ok {h : Int → Int} {n : Int} {pr sp sr : Int → Int} {d : Dv} (i : Int) (hd : okD d) : okD (stp h n pr sp sr d i) := by
  unfold stp
  split
  · rename_i q
    split
    · exact ⟨bd_upz hd.1 q, hd.2.1, Or.inr rfl⟩
    · exact hd
  · exact ⟨hd.1, bd_upz hd.2.1 (by omega), hd.2.2⟩
theorem dayS_ok {h : Int → Int} {n : Int} {pr sp sr : Int → Int} {d : Dv} (hd : okD d) : ∀ k : Nat, okD (dayS h n pr sp sr d k)
  | 0 => hd
  | k + 1 => stp_ok _ (dayS_ok hd k)
abbrev Ct.D (C : Ct) (k : Nat) : Dv := dayS (Ct.h C) (Ct.n C) (Ct.pr C) (Ct.sp C) (Ct.sr C) (Ct.po C, Ct.wy C, 0) k
theorem Ct.D_ok {C : Ct} (hW : WFc C) (k : Nat) : okD (Ct.D C k) := dayS_ok ⟨hW.po, hW.wy, Or.inl rfl⟩ k
def Ct.day (C : Ct) : Ct := Ct.set_wy (Ct.set_po (Ct.set_dy C (Ct.dy C + 1)) (Ct.D C (Ct.n C).toNat).1) (Ct.D C (Ct.n C).toNat).2.1
theorem WFc.posn {C : Ct} (hW : WFc C) {p : Int → Int} (hp : bd p 0 14) : WFc (Ct.set_po C p) := ⟨hW.n, hW.h, hW.kd, hW.fg, hW.ag, hp, hW.wy, hW.pr, hW.sp, hW.sr⟩
theorem WFc.pw {C : Ct} (hW : WFc C) {p q : Int → Int} (hp : bd p 0 14) (hq : bd q (-1) 1) : WFc (Ct.set_wy (Ct.set_po C p) q) := ⟨hW.n, hW.h, hW.kd, hW.fg, hW.ag, hp, hq, hW.pr, hW.sp, hW.sr⟩
theorem WFc.hts {C : Ct} (hW : WFc C) {p : Int → Int} (hp : bd p 0 20) : WFc (Ct.set_h C p) := ⟨hW.n, hp, hW.kd, hW.fg, hW.ag, hW.po, hW.wy, hW.pr, hW.sp, hW.sr⟩
theorem WFc.way {C : Ct} (hW : WFc C) {p : Int → Int} (hp : bd p (-1) 1) : WFc (Ct.set_wy C p) := ⟨hW.n, hW.h, hW.kd, hW.fg, hW.ag, hW.po, hp, hW.pr, hW.sp, hW.sr⟩
theorem WFc.prs {C : Ct} (hW : WFc C) {p : Int → Int} (hp : bd p 0 16) : WFc (Ct.set_pr C p) := ⟨hW.n, hW.h, hW.kd, hW.fg, hW.ag, hW.po, hW.wy, hp, hW.sp, hW.sr⟩
theorem Ct.day_wf {C : Ct} (hW : WFc C) : WFc (Ct.day C) := ⟨hW.n, hW.h, hW.kd, hW.fg, hW.ag, (Ct.D_ok hW _).1, (Ct.D_ok hW _).2.1, hW.pr, hW.sp, hW.sr⟩
def Ct.days (C : Ct) : Nat → Ct
  | 0 => C
  | k + 1 => Ct.day (Ct.days C k)
theorem Ct.days_wf {C : Ct} (hW : WFc C) : ∀ k, WFc (Ct.days C k)
  | 0 => hW
  | k + 1 => Ct.day_wf (Ct.days_wf hW k)
/-! ## rises -/
abbrev azb (a : Int) : Int := if 0 ≤ a then a else - a
/-- the rise either way -/
abbrev stn (g : Int → Int) (c : Int) : Int := azb (g (c + 1) - g c)
/-- the steepest of the first k + 1 -/
def stpc (s : Int → Int) : Nat → Int
  | 0 => 0
  | k + 1 => if s (stpc s k) < s ((k : Int) + 1) then (k : Int) + 1 else stpc s k
def fltc (s : Int → Int) : Nat → Int
  | 0 => 0
  | k + 1 => if s ((k : Int) + 1) < s (fltc s k) then (k : Int) + 1 else fltc s k
theorem stpc_b (s : Int → Int) : ∀ k : Nat, 0 ≤ stpc s k ∧ stpc s k ≤ (k : Int)
  | 0 => by simp [stpc]
  | k + 1 => by
    have := stpc_b s k
    simp only [stpc]
    split <;> omega
theorem fltc_b (s : Int → Int) : ∀ k : Nat, 0 ≤ fltc s k ∧ fltc s k ≤ (k : Int)
  | 0 => by simp [fltc]
  | k + 1 => by
    have := fltc_b s k
    simp only [fltc]
    split <;> omega
abbrev Ct.s (C : Ct) (c : Int) : Int := stn (Ct.g C) c
theorem WFc.s {C : Ct} (h : WFc C) (c : Int) : 0 ≤ Ct.s C c ∧ Ct.s C c ≤ 20 := by
  have h1 := h.g c
  have h2 := h.g (c + 1)
  simp only [Ct.s, stn, azb]
  omega
/-! ## water -/
def lmx (g : Int → Int) : Nat → Int
  | 0 => 0
  | k + 1 => max (lmx g k) (g (k : Int))
/-- the highest of the k last ones -/
def rmx (g : Int → Int) : Nat → Int
  | 0 => 0
  | k + 1 => max (rmx g k) (g (14 - (k : Int)))
abbrev wat (g : Int → Int) (c : Int) : Int := max 0 (min (lmx g c.toNat) (rmx g (14 - c).toNat) - g c)
def sumz (f : Int → Int) : Nat → Int
  | 0 => 0
  | k + 1 => sumz f k + f (k : Int)
theorem lmx_b {g : Int → Int} (hg : bd g 0 20) : ∀ k, 0 ≤ lmx g k ∧ lmx g k ≤ 20
  | 0 => by simp [lmx]
  | k + 1 => by
    have h1 := lmx_b hg k
    have h2 := hg (k : Int)
    simp only [lmx]
    omega
theorem rmx_b {g : Int → Int} (hg : bd g 0 20) : ∀ k, 0 ≤ rmx g k ∧ rmx g k ≤ 20
  | 0 => by simp [rmx]
  | k + 1 => by
    have h1 := rmx_b hg k
    have h2 := hg (14 - (k : Int))
    simp only [rmx]
    omega
theorem wat_b {g : Int → Int} (hg : bd g 0 20) : bd (wat g) 0 20 := fun c => by
  have h1 := lmx_b hg c.toNat
  have h2 := hg c
  simp only [wat]
  omega
theorem sumz_b {f : Int → Int} {m : Int} (hf : bd f 0 m) : ∀ k : Nat, 0 ≤ sumz f k ∧ sumz f k ≤ m * (k : Int)
  | 0 => by simp [sumz]
  | k + 1 => by
    have h1 := sumz_b hf k
    have h2 := hf (k : Int)
    simp only [sumz]
    have e : m * ((k + 1 : Nat) : Int) = m * (k : Int) + m := by rw [Int.natCast_add, Int.mul_add]; simp
    omega
abbrev Ct.w (C : Ct) (c : Int) : Int := wat (Ct.g C) c
abbrev Ct.allW (C : Ct) : Int := sumz (Ct.w C) 15
theorem WFc.w {C : Ct} (h : WFc C) : bd (Ct.w C) 0 20 := wat_b h.g
theorem WFc.allW {C : Ct} (h : WFc C) : 0 ≤ Ct.allW C ∧ Ct.allW C ≤ 300 := sumz_b h.w 15
/-- bits of the k first that are so -/
def bitz (p : Int → Prop) [DecidablePred p] : Nat → Int
  | 0 => 0
  | k + 1 => if p (k : Int) then bitz p k + 2 ^ k else bitz p k
theorem bitz_b (p : Int → Prop) [DecidablePred p] : ∀ k : Nat, 0 ≤ bitz p k ∧ bitz p k < 2 ^ k
  | 0 => by simp [bitz]
  | k + 1 => by
    have h := bitz_b p k
    have e : (2 : Int) ^ (k + 1) = 2 ^ k * 2 := Int.pow_succ ..
    simp only [bitz]
    split <;> omega
/-! ## bits -/
abbrev btz (b i : Int) : Prop := b / 2 ^ i.toNat % 2 = 1
/-! ## who gets where -/
/-- one goes on by b, as far as he may, k times at most -/
def wkF (h : Int → Int) (n : Int) (pr sp sr : Int → Int) (i b : Int) (po : Int → Int) : Nat → Int → Int
  | 0 => po
  | k + 1 => if mgo h n pr sp sr (wkF h n pr sp sr i b po k) i b then upz (wkF h n pr sp sr i b po k) i (wkF h n pr sp sr i b po k i + b) else wkF h n pr sp sr i b po k
theorem wkF_ok {h : Int → Int} {n : Int} {pr sp sr : Int → Int} {i b : Int} {po : Int → Int} (hp : bd po 0 14) : ∀ k, bd (wkF h n pr sp sr i b po k) 0 14
  | 0 => hp
  | k + 1 => by
    have h1 := wkF_ok (h := h) (n := n) (pr := pr) (sp := sp) (sr := sr) (i := i) (b := b) hp k
    simp only [wkF]
    split
    · rename_i q
      exact bd_upz h1 q.1
    · exact h1
theorem wkF_stop {h : Int → Int} {n : Int} {pr sp sr : Int → Int} {i b : Int} {po : Int → Int} {k : Nat} (hs : ¬ mgo h n pr sp sr (wkF h n pr sp sr i b po k) i b) : ∀ m, wkF h n pr sp sr i b po (k + m) = wkF h n pr sp sr i b po k
  | 0 => rfl
  | m + 1 => by
    have e := wkF_stop hs m
    rw [← Nat.add_assoc]
    simp only [wkF]
    rw [e]
    exact if_neg hs
/-- those along come to one's cell -/
def gth (n : Int) (al : Int) (i : Int) (po : Int → Int) : Int → Int := fun j => if 0 ≤ j ∧ j < n ∧ btz al j then po i else po j
theorem gth_ok {n al i : Int} {po : Int → Int} (hp : bd po 0 14) : bd (gth n al i po) 0 14 := fun j => by
  unfold gth
  split
  · exact hp i
  · exact hp j
/-- one goes by b to the cell c, with company: whether he gets there (1, 0) -/
def wto (h : Int → Int) (n : Int) (pr sp sr : Int → Int) (i al c b : Int) : Nat → (Int → Int) → Int
  | 0, _ => 1
  | k + 1, po => if po i = c then 1 else if mgo h n pr sp sr (gth n al i po) i b then wto h n pr sp sr i al c b k (upz (gth n al i po) i (gth n al i po i + b)) else 0
theorem wto_01 (h : Int → Int) (n : Int) (pr sp sr : Int → Int) (i al c b : Int) : ∀ (k : Nat) (po : Int → Int), wto h n pr sp sr i al c b k po = 0 ∨ wto h n pr sp sr i al c b k po = 1
  | 0, _ => Or.inr rfl
  | k + 1, po => by
    simp only [wto]
    split
    · exact Or.inr rfl
    · split
      · exact wto_01 h n pr sp sr i al c b k _
      · exact Or.inl rfl
/-! ## Int32 bits -/
theorem s31 : ∀ n, n < 32 → ((nI n &&& 31).toBitVec.smod 32).toNat = n := by decide +kernel
theorem iN_shr {b w : Int} (hb : 0 ≤ b ∧ b < 2147483648) (hw : 0 ≤ w ∧ w < 32) : iN b >>> (iN w &&& 31) = iN (b / 2 ^ w.toNat) := by
  have e1 : iN w = nI w.toNat := by rw [← iN_nat]; congr 1; omega
  have h1 := pk_shr (iN b) (iN w &&& 31) w.toNat (by rw [e1]; exact s31 _ (by omega))
  rw [iN_toInt (by omega), Int.shiftRight_eq_div_pow] at h1
  have hp : (0 : Int) < 2 ^ w.toNat := Int.pow_pos (by decide)
  have h2 : 0 ≤ b / 2 ^ w.toNat := Int.ediv_nonneg hb.1 (by omega)
  have h3 : b / 2 ^ w.toNat ≤ b := Int.ediv_le_self _ hb.1
  refine Int32.toInt_inj.mp ?_
  rw [h1, iN_toInt (by omega)]
  norm_cast
theorem iN_and1 {b : Int} (hb : 0 ≤ b ∧ b < 2147483648) : iN b &&& iN 1 = iN (b % 2) := by
  have e1 : iN b = nI b.toNat := by rw [← iN_nat]; congr 1; omega
  rw [e1]
  rw [pk_andN (n := b.toNat) (by omega) (m := iN 1) 1 rfl, ← iN_nat]
  congr 1
  omega
theorem iN_shl1 {i : Int} (hi : 0 ≤ i ∧ i < 31) : iN 1 <<< (iN i &&& 31) = iN (2 ^ i.toNat) := by
  have e1 : iN i = nI i.toNat := by rw [← iN_nat]; congr 1; omega
  have h1 : 2 ^ i.toNat < 2 ^ 31 := Nat.pow_lt_pow_right (by decide) (by omega)
  have h := pk_shlN (n := 1) (iN i &&& 31) i.toNat (by rw [e1]; exact s31 _ (by omega)) (by omega)
  have e2 : iN 1 = nI 1 := rfl
  rw [e2, h, ← iN_nat, Nat.one_mul]
  norm_cast
theorem iN_orp {a : Int} {k : Nat} (ha : 0 ≤ a ∧ a < 2 ^ k) (hk : k < 31) : iN a ||| iN (2 ^ k) = iN (a + 2 ^ k) := by
  have h1 : 2 ^ k < 2 ^ 31 := Nat.pow_lt_pow_right (by decide) hk
  have h1' : (2 : Int) ^ k = ((2 ^ k : Nat) : Int) := by norm_cast
  have ea : iN a = nI a.toNat := by rw [← iN_nat]; congr 1; omega
  have eb : iN (2 ^ k) = nI (2 ^ k) := by rw [← iN_nat, h1']
  have ec : iN (a + 2 ^ k) = nI (2 ^ k + a.toNat) := by rw [← iN_nat]; congr 1; omega
  rw [ea, eb, ec]
  have hor : 2 ^ k + a.toNat = 2 ^ k ||| a.toNat := by
    have := Nat.two_pow_add_eq_or_of_lt (i := k) (b := a.toNat) (by omega) 1
    simpa using this
  refine Int32.toBitVec_inj.mp (BitVec.eq_of_toNat_eq ?_)
  rw [Int32.toBitVec_or, BitVec.toNat_or, pk_tn (by omega), pk_tn (by omega), pk_tn (by omega), hor, Nat.or_comm]
end HSPEC1
