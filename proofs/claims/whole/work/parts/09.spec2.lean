section HSPEC2
theorem upz_up {G F : Int → Int} {m v : Int} (h : ∀ j : Int, 0 ≤ j → j < m → G j = F j) (hv : v = F m) : ∀ j : Int, 0 ≤ j → j < m + 1 → upz G m v j = F j := fun j h1 h2 =>
  if q : j = m then (by rw [q, upz_s]; exact hv) else (by rw [upz_n q]; exact h j h1 (by omega))
abbrev Ct.mg (C : Ct) (i b : Int) : Prop := mgo (Ct.h C) (Ct.n C) (Ct.pr C) (Ct.sp C) (Ct.sr C) (Ct.po C) i b
abbrev Ct.wk (C : Ct) (i b : Int) (k : Nat) : Int → Int := wkF (Ct.h C) (Ct.n C) (Ct.pr C) (Ct.sp C) (Ct.sr C) i b (Ct.po C) k
abbrev Ct.wt (C : Ct) (i al c b : Int) (k : Nat) (po : Int → Int) : Int := wto (Ct.h C) (Ct.n C) (Ct.pr C) (Ct.sp C) (Ct.sr C) i al c b k po
theorem Ct.wk_ok {C : Ct} (hW : WFc C) {i b : Int} (k : Nat) : bd (Ct.wk C i b k) 0 14 := wkF_ok hW.po k
/-- 1 for one on the edge -/
abbrev edz (po : Int → Int) (i : Int) : Int := if po i = 0 ∨ po i = 14 then 1 else 0
end HSPEC2
