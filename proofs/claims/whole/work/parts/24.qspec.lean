section HQ
/-- the reference, but for what is behind each call only rest -/
def Wk (γ : GX) (a : Nat → Nat) (mh : Int → Int) (mn : Int) (mkd : Int → Int) (mfg : Int → Int) (mag : Int → Int) (mpo : Int → Int) (mwy : Int → Int) (mdy : Int) (mhw : Int → Int) (mkk : Int → Int) (mkf : Int → Int) (mrs : Int → Int) (mrm : Int → Int) (mrw : Int → Int) (mth : Int) (mim : Int → Int) (mhi : Int) (w : va_W) : Prop := ∃ (mgr : Int → Int) (mwa : Int → Int) (mre : Int) (mpl : Int) (mib : Int) (msn : Int) (mpn : Int → Int) (mlo : Int → Int) (mtl : Int → Int) (mke : Int → Int) (mp0 : Int) (mtk : Int) (mki : Value) (mun : Int → Int) (msd : Int) (mbe : Int → Int), w = WM γ a mh mn mkd mfg mag mpo mwy mdy mhw mkk mkf mrs mrm mrw mth 0 mgr mwa mre mpl mib msn mpn mlo mtl mke mim mhi mp0 mtk mki mun msd mbe
theorem Wk.mk {γ : GX} {a : Nat → Nat} {mh : Int → Int} {mn : Int} {mkd : Int → Int} {mfg : Int → Int} {mag : Int → Int} {mpo : Int → Int} {mwy : Int → Int} {mdy : Int} {mhw : Int → Int} {mkk : Int → Int} {mkf : Int → Int} {mrs : Int → Int} {mrm : Int → Int} {mrw : Int → Int} {mth : Int} {mgr : Int → Int} {mwa : Int → Int} {mre : Int} {mpl : Int} {mib : Int} {msn : Int} {mpn : Int → Int} {mlo : Int → Int} {mtl : Int → Int} {mke : Int → Int} {mim : Int → Int} {mhi : Int} {mp0 : Int} {mtk : Int} {mki : Value} {mun : Int → Int} {msd : Int} {mbe : Int → Int} : Wk γ a mh mn mkd mfg mag mpo mwy mdy mhw mkk mkf mrs mrm mrw mth mim mhi (WM γ a mh mn mkd mfg mag mpo mwy mdy mhw mkk mkf mrs mrm mrw mth 0 mgr mwa mre mpl mib msn mpn mlo mtl mke mim mhi mp0 mtk mki mun msd mbe) := ⟨_, _, _, _, _, _, _, _, _, _, _, _, _, _, _, _, rfl⟩
/-- the first number below k at which f is 0, or -4 -/
def fstz (f : Nat → Int) : Nat → Int
  | 0 => -4
  | k + 1 => if fstz f k < 0 then (if f k = 0 then (k : Int) else -4) else fstz f k
theorem fstz_b (f : Nat → Int) : ∀ k, fstz f k = -4 ∨ (0 ≤ fstz f k ∧ fstz f k < (k : Int))
  | 0 => Or.inl rfl
  | k + 1 => by
    have h := fstz_b f k
    simp only [fstz]
    omega
theorem fstz_stay (f : Nat → Int) (k : Nat) (h : 0 ≤ fstz f k) : ∀ j, fstz f (k + j) = fstz f k
  | 0 => rfl
  | j + 1 => by
    have e := fstz_stay f k h j
    show (if fstz f (k + j) < 0 then (if f (k + j) = 0 then ((k + j : Nat) : Int) else -4) else fstz f (k + j)) = _
    rw [if_neg (by omega), e]
theorem fstz_end (f : Nat → Int) {k m : Nat} (hk : k ≤ m) (h : k = m ∨ 0 ≤ fstz f k) : fstz f m = fstz f k := by
  cases h with
  | inl h => rw [h]
  | inr h =>
    have := fstz_stay f k h (m - k)
    rw [show k + (m - k) = m by omega] at this
    exact this
abbrev q_one (C : Ct) (i : Int) : Prop := 0 ≤ i ∧ i ≤ Ct.n C - 1
abbrev q_cell (c : Int) : Prop := 0 ≤ c ∧ c ≤ 14
def q_height (C : Ct) (c : Int) : Int := if 0 ≤ c ∧ c ≤ 14 then Ct.h C c else -1
def q_wy (y : Int) : Int := if y = 0 then 0 else if y < 0 then 1 else 2
def q_walk (C : Ct) (i w : Int) : Int := if w = 0 then Ct.kd C i else if w = 1 then Ct.fg C i else if w = 2 then Ct.ag C i else if w = 3 then Ct.po C i else if w = 4 then q_wy (Ct.wy C i) else if w = 5 then Ct.pr C i else if w = 6 then Ct.sr C i else if w = 7 then shF (Ct.kd C i) (Ct.fg C i) (Ct.ag C i) else if w = 8 then Ct.sp C i else -1
def q_walker (C : Ct) (i w : Int) : Int := if q_one C i then q_walk C i w else -1
def q_ground (C : Ct) (c : Int) : Int := if 0 ≤ c ∧ c ≤ 14 then Ct.g C c else -1
def q_water (C : Ct) (c : Int) : Int := if -1 ≤ c ∧ c ≤ 14 then (if 0 ≤ c then Ct.w C c else Ct.allW C) else -1
def q_lake (C : Ct) (c : Int) : Int := if 0 < Ct.w C (c + 1) ∧ Ct.w C c = 0 then 1 else 0
def q_lakes (C : Ct) : Int := sumz (q_lake C) 13
def q_steepest (C : Ct) (w : Int) : Int := if 0 ≤ w ∧ w ≤ 3 then (if w = 0 then stpc (Ct.s C) 13 else if w = 1 then Ct.s C (stpc (Ct.s C) 13) else if w = 2 then fltc (Ct.s C) 13 else Ct.s C (fltc (Ct.s C) 13)) else -1
def q_behind (C : Ct) (i m : Int) : Int := if q_one C i ∧ 0 ≤ m ∧ m ≤ 60 then Ct.po (Ct.days C m.toNat) i else -1
def q_then (C : Ct) (c m : Int) : Int := if (-1 ≤ c ∧ c ≤ 14) ∧ 0 ≤ m ∧ m ≤ 60 then (if 0 ≤ c then Ct.g (Ct.days C m.toNat) c else Ct.allW (Ct.days C m.toNat)) else -1
def q_arrives (C : Ct) (i c : Int) : Int := if q_one C i ∧ q_cell c then fstz (fun t => Ct.po (Ct.days C t) i - c) 61 else -1
def q_stuck (C : Ct) (i : Int) : Int := if q_one C i then fstz (fun t => Ct.po (Ct.days C (t + 1)) i - Ct.po (Ct.days C t) i) 61 else -1
end HQ
