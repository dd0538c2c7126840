section HRCH
/-- where one gets who goes by b with company, until he is at the stop or can't go on -/
def rch (h : Int → Int) (n : Int) (pr sp sr : Int → Int) (i al stop b : Int) : Nat → (Int → Int) → Int
  | 0, po => po i
  | k + 1, po => if po i = stop then po i else if mgo h n pr sp sr (gth n al i po) i b then rch h n pr sp sr i al stop b k (upz (gth n al i po) i (gth n al i po i + b)) else po i
abbrev Ct.rc (C : Ct) (i al stop b : Int) (k : Nat) (po : Int → Int) : Int := rch (Ct.h C) (Ct.n C) (Ct.pr C) (Ct.sp C) (Ct.sr C) i al stop b k po
theorem gth_i (n al i : Int) (po : Int → Int) : gth n al i po i = po i := by
  unfold gth
  split <;> rfl
theorem gth_0 (al i : Int) (po : Int → Int) : gth ((0 : Nat) : Int) al i po = po := by
  funext t
  unfold gth
  rw [if_neg (by omega)]
theorem gth_s (k : Nat) (al i : Int) (po : Int → Int) : gth ((k + 1 : Nat) : Int) al i po = upz (gth (k : Int) al i po) (k : Int) (if btz al (k : Int) then po i else po (k : Int)) := by
  funext t
  unfold gth upz
  by_cases q : t = (k : Int)
  · subst q
    rw [if_pos rfl]
    by_cases hb : btz al (k : Int)
    · rw [if_pos ⟨by omega, by omega, hb⟩, if_pos hb]
    · rw [if_neg (fun z => hb z.2.2), if_neg hb]
  · rw [if_neg q]
    by_cases hb : 0 ≤ t ∧ t < (k : Int) ∧ btz al t
    · rw [if_pos ⟨hb.1, by omega, hb.2.2⟩]
      exact (if_pos hb).symm
    · rw [if_neg (fun z => hb ⟨z.1, by omega, z.2.2⟩)]
      exact (if_neg hb).symm
theorem rch_go {h : Int → Int} {n : Int} {pr sp sr : Int → Int} {i al stop b : Int} {k : Nat} {po : Int → Int} (h1 : ¬ po i = stop) (h2 : mgo h n pr sp sr (gth n al i po) i b) : rch h n pr sp sr i al stop b (k + 1) po = rch h n pr sp sr i al stop b k (upz (gth n al i po) i (po i + b)) := by
  simp only [rch]
  rw [if_neg h1, if_pos h2, gth_i]
theorem rch_at {h : Int → Int} {n : Int} {pr sp sr : Int → Int} {i al stop b : Int} {k : Nat} {po : Int → Int} (h1 : po i = stop) : rch h n pr sp sr i al stop b (k + 1) po = po i := by
  simp only [rch]
  rw [if_pos h1]
theorem rch_no {h : Int → Int} {n : Int} {pr sp sr : Int → Int} {i al stop b : Int} {k : Nat} {po : Int → Int} (h2 : ¬ mgo h n pr sp sr (gth n al i po) i b) : rch h n pr sp sr i al stop b (k + 1) po = po i := by
  simp only [rch]
  rw [if_neg h2]
  split <;> rfl
/-- the first k of those who go together, set to v -/
def mvk (k : Int) (al i v : Int) (po : Int → Int) : Int → Int := fun t => if 0 ≤ t ∧ t < k ∧ (t = i ∨ btz al t) then v else po t
theorem mvk_0 (al i v : Int) (po : Int → Int) : mvk ((0 : Nat) : Int) al i v po = po := by
  funext t
  unfold mvk
  rw [if_neg (by omega)]
theorem mvk_s (k : Nat) (al i v : Int) (po : Int → Int) : mvk ((k + 1 : Nat) : Int) al i v po = upz (mvk (k : Int) al i v po) (k : Int) (if (k : Int) = i ∨ btz al (k : Int) then v else po (k : Int)) := by
  funext t
  unfold mvk upz
  by_cases q : t = (k : Int)
  · subst q
    rw [if_pos rfl]
    by_cases hb : (k : Int) = i ∨ btz al (k : Int)
    · rw [if_pos ⟨by omega, by omega, hb⟩, if_pos hb]
    · rw [if_neg (fun z => hb z.2.2), if_neg hb]
  · rw [if_neg q]
    by_cases hb : 0 ≤ t ∧ t < (k : Int) ∧ (t = i ∨ btz al t)
    · rw [if_pos ⟨hb.1, by omega, hb.2.2⟩]
      exact (if_pos hb).symm
    · rw [if_neg (fun z => hb ⟨z.1, by omega, z.2.2⟩)]
      exact (if_neg hb).symm
theorem mvk_at (k : Nat) (al i v : Int) (po : Int → Int) : mvk (k : Int) al i v po (k : Int) = po (k : Int) := by
  unfold mvk
  rw [if_neg (by omega)]
theorem gth_at (k : Nat) (al i : Int) (po : Int → Int) : gth (k : Int) al i po (k : Int) = po (k : Int) := by
  unfold gth
  rw [if_neg (by omega)]
theorem mvk_b {k al i v : Int} {po : Int → Int} (hv : 0 ≤ v ∧ v ≤ 14) (hp : bd po 0 14) : bd (mvk k al i v po) 0 14 := fun t => by
  unfold mvk
  split
  · exact hv
  · exact hp t
theorem mvk_gth {n al i v : Int} {Q : Int → Int} (hi : 0 ≤ i ∧ i < n) : mvk n al i v (gth n al i Q) = gth n al i (upz (gth n al i Q) i v) := by
  funext t
  unfold mvk
  show _ = (if 0 ≤ t ∧ t < n ∧ btz al t then upz (gth n al i Q) i v i else upz (gth n al i Q) i v t)
  rw [upz_s]
  by_cases hb : 0 ≤ t ∧ t < n ∧ btz al t
  · rw [if_pos hb, if_pos ⟨hb.1, hb.2.1, Or.inr hb.2.2⟩]
  · rw [if_neg hb]
    by_cases q : t = i
    · subst q
      rw [if_pos ⟨hi.1, hi.2, Or.inl rfl⟩, upz_s]
    · rw [if_neg (fun z => z.2.2.elim q (fun y => hb ⟨z.1, z.2.1, y⟩)), upz_n q]
end HRCH
