section HQG
def pw (n : Int) : Nat := 2 ^ n.toNat
theorem pw_b {n : Int} (h : 0 ≤ n ∧ n ≤ 6) : 1 ≤ pw n ∧ pw n ≤ 64 := by
  have h1 : (2 : Nat) ^ n.toNat ≤ 2 ^ 6 := Nat.pow_le_pow_right (by decide) (by omega)
  have h2 : 0 < (2 : Nat) ^ n.toNat := Nat.pow_pos (by decide)
  exact ⟨h2, h1⟩
theorem iN_shlp {n : Int} (h : 0 ≤ n ∧ n ≤ 6) : iN 1 <<< (iN n &&& 31) = iN ((pw n : Nat) : Int) := by
  rw [iN_shl1 (by omega)]
  unfold pw
  norm_cast
abbrev q_gets (C : Ct) (i al c : Int) : Prop := Ct.rc C i al c (if Ct.po C i < c then 1 else -1) 15 (Ct.po C) = c
def q_goes (C : Ct) (i c : Int) : Int := if q_one C i ∧ q_cell c then (if q_gets C i 0 c then 1 else 0) else -1
def q_far (C : Ct) (i w : Int) : Int := if q_one C i ∧ 0 ≤ w ∧ w ≤ 1 then (if w = 0 then Ct.rc C i 0 14 1 15 (Ct.po C) else Ct.rc C i 0 0 (-1) 15 (Ct.po C)) else -1
/-- the fewest who let one get there -/
def cmpz (C : Ct) (i c : Int) : Nat → Int
  | 0 => -4
  | k + 1 => if (cmpz C i c k < 0 ∨ (pc6 k : Int) < (pc6 (cmpz C i c k).toNat : Int)) ∧ ¬ btz (k : Int) i ∧ q_gets C i (k : Int) c then (k : Int) else cmpz C i c k
theorem cmpz_b (C : Ct) (i c : Int) : ∀ k, cmpz C i c k = -4 ∨ (0 ≤ cmpz C i c k ∧ cmpz C i c k < (k : Int))
  | 0 => Or.inl rfl
  | k + 1 => by
    have h := cmpz_b C i c k
    simp only [cmpz]
    split <;> omega
def q_company (C : Ct) (i c : Int) : Int := if q_one C i ∧ q_cell c then cmpz C i c (pw (Ct.n C)) else -1
def q_pay (C : Ct) (al : Int) : Int := sumz (fun i => if btz al i then shF (Ct.kd C i) (Ct.fg C i) (Ct.ag C i) / 10 + 1 else 0) (Ct.n C).toNat
theorem q_pay_b {C : Ct} (hW : WFc C) (al : Int) : 0 ≤ q_pay C al ∧ q_pay C al ≤ 78 := by
  have hb : ∀ m : Nat, 0 ≤ sumz (fun i => if btz al i then shF (Ct.kd C i) (Ct.fg C i) (Ct.ag C i) / 10 + 1 else 0) m ∧ sumz (fun i => if btz al i then shF (Ct.kd C i) (Ct.fg C i) (Ct.ag C i) / 10 + 1 else 0) m ≤ 13 * (m : Int) := by
    intro m
    induction m with
    | zero => simp [sumz]
    | succ k ih =>
      have h1 := shF_b (k := Ct.kd C (k : Int)) (hW.fg (k : Int)) (hW.ag (k : Int))
      simp only [sumz]
      split <;> omega
  have h1 := hb (Ct.n C).toNat
  have h2 := hW.n
  unfold q_pay
  omega
/-- the cheapest who let one get there -/
def hrz (C : Ct) (i c : Int) : Nat → Int
  | 0 => -4
  | k + 1 => if (hrz C i c k < 0 ∨ q_pay C (k : Int) < q_pay C (hrz C i c k)) ∧ ¬ btz (k : Int) i ∧ q_gets C i (k : Int) c then (k : Int) else hrz C i c k
theorem hrz_b (C : Ct) (i c : Int) : ∀ k, hrz C i c k = -4 ∨ (0 ≤ hrz C i c k ∧ hrz C i c k < (k : Int))
  | 0 => Or.inl rfl
  | k + 1 => by
    have h := hrz_b C i c k
    simp only [hrz]
    split <;> omega
def q_hire (C : Ct) (i c w : Int) : Int := if q_one C i ∧ q_cell c ∧ 0 ≤ w ∧ w ≤ 1 then (if w = 0 ∨ hrz C i c (pw (Ct.n C)) < 0 then hrz C i c (pw (Ct.n C)) else q_pay C (hrz C i c (pw (Ct.n C)))) else -1
end HQG
