section HMSP
/-! ## the reference's ways of counting -/
theorem lmx_min (g : Int → Int) (k c : Nat) : lmx g (min (k + 1) c) = if k < c then max (lmx g (min k c)) (g (k : Int)) else lmx g (min k c) := by
  by_cases q : k < c
  · rw [if_pos q, Nat.min_eq_left (by omega), Nat.min_eq_left (by omega)]
    rfl
  · rw [if_neg q, Nat.min_eq_right (by omega), Nat.min_eq_right (by omega)]
/-- the greatest right of c, of the k first -/
def rgz (g : Int → Int) (c : Nat) : Nat → Int
  | 0 => 0
  | k + 1 => if c < k then max (rgz g c k) (g (k : Int)) else rgz g c k
theorem rgz_b {g : Int → Int} (hg : bd g 0 20) (c : Nat) : ∀ k, 0 ≤ rgz g c k ∧ rgz g c k ≤ 20
  | 0 => by simp [rgz]
  | k + 1 => by
    have h1 := rgz_b hg c k
    have h2 := hg (k : Int)
    simp only [rgz]
    split <;> omega
theorem rgz_0 (g : Int → Int) (c : Nat) : ∀ k, k ≤ c + 1 → rgz g c k = 0
  | 0, _ => rfl
  | k + 1, h => by
    simp only [rgz]
    rw [if_neg (by omega)]
    exact rgz_0 g c k (by omega)
theorem rgz_step {g : Int → Int} (hg : bd g 0 20) (c : Nat) : ∀ k, c + 1 < k → rgz g c k = max (rgz g (c + 1) k) (g ((c + 1 : Nat) : Int))
  | 0, h => by omega
  | k + 1, h => by
    simp only [rgz]
    by_cases q : c + 1 < k
    · have e := rgz_step hg c k q
      rw [if_pos (by omega), if_pos q, e]
      omega
    · have hk : k = c + 1 := by omega
      subst hk
      have h0 := hg ((c + 1 : Nat) : Int)
      rw [if_pos (by omega), if_neg (by omega), rgz_0 g c (c + 1) (by omega), rgz_0 g (c + 1) (c + 1) (by omega)]
theorem rgz_rmx {g : Int → Int} (hg : bd g 0 20) : ∀ m : Nat, m ≤ 14 → rgz g (14 - m) 15 = rmx g m
  | 0, _ => by
    rw [rgz_0 g 14 15 (by omega)]
    rfl
  | m + 1, h => by
    have e := rgz_rmx hg m (by omega)
    have s := rgz_step hg (14 - (m + 1)) 15 (by omega)
    rw [show 14 - (m + 1) + 1 = 14 - m by omega] at s
    rw [s, e]
    simp only [rmx]
    congr 1
    congr 1
    omega
/-- the greatest of the k first, 0 at least -/
def mxz (s : Int → Int) : Nat → Int
  | 0 => 0
  | k + 1 => if mxz s k < s (k : Int) then s (k : Int) else mxz s k
theorem mxz_b {s : Int → Int} (hs : ∀ c, 0 ≤ s c ∧ s c ≤ 20) : ∀ k, 0 ≤ mxz s k ∧ mxz s k ≤ 20
  | 0 => by simp [mxz]
  | k + 1 => by
    have h1 := mxz_b hs k
    have h2 := hs (k : Int)
    simp only [mxz]
    split <;> omega
/-- the greatest is the steepest's -/
theorem mxz_stpc {s : Int → Int} (hs : ∀ c, 0 ≤ s c ∧ s c ≤ 20) : ∀ k : Nat, mxz s (k + 1) = s (stpc s k)
  | 0 => by
    have := hs 0
    show (if (0 : Int) < s ((0 : Nat) : Int) then s ((0 : Nat) : Int) else 0) = s 0
    show (if (0 : Int) < s 0 then s 0 else 0) = s 0
    split <;> omega
  | k + 1 => by
    have e := mxz_stpc hs k
    show (if mxz s (k + 1) < s ((k + 1 : Nat) : Int) then s ((k + 1 : Nat) : Int) else mxz s (k + 1)) = s (stpc s (k + 1))
    rw [e]
    simp only [stpc]
    have e2 : ((k + 1 : Nat) : Int) = (k : Int) + 1 := by omega
    rw [e2]
    split <;> rfl
/-- ones of a number below 64 -/
def pc6 (b : Nat) : Nat := b % 2 + b / 2 % 2 + b / 4 % 2 + b / 8 % 2 + b / 16 % 2 + b / 32 % 2
theorem pc6_step : ∀ r, r < 64 → 0 < r → r &&& (r - 1) < r ∧ pc6 (r &&& (r - 1)) + 1 = pc6 r := by decide +kernel
theorem iN_andN {a b : Nat} (ha : a < 2147483648) (hb : b < 2147483648) : iN (a : Int) &&& iN (b : Int) = iN ((a &&& b : Nat) : Int) := by
  rw [iN_nat, iN_nat, iN_nat]
  refine Int32.toBitVec_inj.mp (BitVec.eq_of_toNat_eq ?_)
  have h := Nat.and_le_left (n := a) (m := b)
  rw [Int32.toBitVec_and, BitVec.toNat_and, pk_tn (by omega), pk_tn (by omega), pk_tn (by omega)]
/-! ## the state kept: 47 numbers -/
def pck (h : Int → Int) (n dy : Int) (kd fg ag po wy : Int → Int) : Int → Int := fun j =>
  if j = 0 then n else if j = 1 then dy else if j < 17 then h (j - 2) else
  if (j - 17) % 5 = 0 then kd ((j - 17) / 5) else if (j - 17) % 5 = 1 then fg ((j - 17) / 5) else if (j - 17) % 5 = 2 then ag ((j - 17) / 5) else if (j - 17) % 5 = 3 then po ((j - 17) / 5) else wy ((j - 17) / 5)
theorem w_at (C : Ct) (c : Nat) (h : c < 15) : Ct.w C (c : Int) = max 0 (min (lmx (Ct.g C) c) (rmx (Ct.g C) (14 - c)) - Ct.g C (c : Int)) := by
  simp only [Ct.w, wat]
  rw [show ((c : Nat) : Int).toNat = c by omega, show (14 - (c : Int)).toNat = 14 - c by omega]
theorem Ct.same_of {C L : Ct} (h1 : Ct.h C = Ct.h L) (h2 : Ct.n C = Ct.n L) (h3 : Ct.kd C = Ct.kd L) (h4 : Ct.fg C = Ct.fg L) (h5 : Ct.ag C = Ct.ag L) (h6 : Ct.pr C = Ct.pr L) (h7 : Ct.sp C = Ct.sp L) (h8 : Ct.sr C = Ct.sr L) (h9 : Ct.wa C = Ct.wa L) : C = Ct.set_dy (Ct.set_wy (Ct.set_po L (Ct.po C)) (Ct.wy C)) (Ct.dy C) := by
  show (Ct.h C, Ct.n C, Ct.dy C, Ct.kd C, Ct.fg C, Ct.ag C, Ct.po C, Ct.wy C, Ct.pr C, Ct.sp C, Ct.sr C, Ct.wa C) = (Ct.h L, Ct.n L, Ct.dy C, Ct.kd L, Ct.fg L, Ct.ag L, Ct.po C, Ct.wy C, Ct.pr L, Ct.sp L, Ct.sr L, Ct.wa L)
  rw [h1, h2, h3, h4, h5, h6, h7, h8, h9]
theorem Ct.days_eq (L : Ct) : ∀ k, Ct.h (Ct.days L k) = Ct.h L ∧ Ct.n (Ct.days L k) = Ct.n L ∧ Ct.kd (Ct.days L k) = Ct.kd L ∧ Ct.fg (Ct.days L k) = Ct.fg L ∧ Ct.ag (Ct.days L k) = Ct.ag L ∧ Ct.pr (Ct.days L k) = Ct.pr L ∧ Ct.sp (Ct.days L k) = Ct.sp L ∧ Ct.sr (Ct.days L k) = Ct.sr L ∧ Ct.wa (Ct.days L k) = Ct.wa L
  | 0 => ⟨rfl, rfl, rfl, rfl, rfl, rfl, rfl, rfl, rfl⟩
  | k + 1 => Ct.days_eq L k
theorem Ct.days_same (L : Ct) (k : Nat) : Ct.days L k = Ct.set_dy (Ct.set_wy (Ct.set_po L (Ct.po (Ct.days L k))) (Ct.wy (Ct.days L k))) (Ct.dy (Ct.days L k)) := by
  obtain ⟨h1, h2, h3, h4, h5, h6, h7, h8, h9⟩ := Ct.days_eq L k
  exact Ct.same_of h1 h2 h3 h4 h5 h6 h7 h8 h9
theorem Ct.days_s (L : Ct) (k : Nat) : Ct.po (Ct.days L (k + 1)) = (Ct.D (Ct.days L k) (Ct.n L).toNat).1 ∧ Ct.wy (Ct.days L (k + 1)) = (Ct.D (Ct.days L k) (Ct.n L).toNat).2.1 ∧ Ct.dy (Ct.days L (k + 1)) = Ct.dy (Ct.days L k) + 1 := by
  rw [← (Ct.days_eq L k).2.1]
  exact ⟨rfl, rfl, rfl⟩
theorem upz_id {α : Type} (f : Int → α) (i : Int) : upz f i (f i) = f := funext fun j => if q : j = i then (by rw [q, upz_s]) else upz_n q
end HMSP
