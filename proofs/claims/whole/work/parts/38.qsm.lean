section HQSM
theorem iN_orq {a s : Int} {k : Nat} (ha : 0 ≤ a ∧ a < 2 ^ k) (hk : k < 31) (hs : s = 0 ∨ s = 2 ^ k) : iN a ||| iN s = iN (a + s) := by
  rcases hs with rfl | rfl
  · rw [Int.add_zero]
    show iN a ||| (0 : Int32) = iN a
    exact Int32.or_zero
  · exact iN_orp ha hk
/-- low 31 bits -/
theorem iN_and31 (a : Int) : iN a &&& iN 2147483647 = iN (a % 2147483648) := by
  refine Int32.toBitVec_inj.mp (BitVec.eq_of_toNat_eq ?_)
  rw [Int32.toBitVec_and, BitVec.toNat_and]
  have e1 : (iN a).toBitVec.toNat = (a % 4294967296).toNat := by
    show (BitVec.ofInt 32 a).toNat = _
    rw [BitVec.toNat_ofInt]
    rfl
  have e2 : (iN (a % 2147483648)).toBitVec.toNat = (a % 2147483648 % 4294967296).toNat := by
    show (BitVec.ofInt 32 (a % 2147483648)).toNat = _
    rw [BitVec.toNat_ofInt]
    rfl
  have e3 : (iN 2147483647).toBitVec.toNat = 2 ^ 31 - 1 := by decide +kernel
  rw [e1, e2, e3, Nat.and_two_pow_sub_one_eq_mod]
  omega
theorem keep_bits : ∀ n : Nat, n < 7 → ∀ t : Nat, t < 2 ^ n → nI (2 ^ n - 1) &&& (nI t ^^^ iN (-1)) = nI (2 ^ n - 1 - t) := by decide +kernel
theorem jN_l2i {a : Int} (h : -2147483648 ≤ a ∧ a < 2147483648) : (jN a).toInt32 = iN a := by
  refine Int32.toInt_inj.mp ?_
  rw [Int64.toInt_toInt32, jN_toInt (by omega)]
  show _ = (Int32.ofInt a).toInt
  rw [Int32.toInt_ofInt]
/-! ## answers -/
def q_part (a b i : Int) : Int := if a = 0 then i else if i = 0 then a / (Nat.gcd a.toNat b.toNat : Int) else b / (Nat.gcd a.toNat b.toNat : Int)
def q_mean (C : Ct) (w : Int) : Int := if 0 ≤ w ∧ w ≤ 1 then q_part (sumz (Ct.g C) 15) 15 w else 1000000001
def q_shares (n m i : Int) : Int := if (1 ≤ n ∧ n ≤ 9) ∧ (0 ≤ m ∧ m ≤ 99) ∧ 0 ≤ i ∧ i ≤ n - 1 then m / n + (if i < m % n then 1 else 0) else -1
def q_count (C : Ct) (w : Int) : Int := if w = 0 then Ct.n C else if w = 1 then Ct.dy C else if w = 2 then sumz (Ct.h C) 15 else if w = 3 then sumz (Ct.g C) 15 else if w = 4 then bitz (fun i => Ct.wy C i ≠ 0) (Ct.n C).toNat else if w = 5 then bitz (fun c => 0 < Ct.w C c) 15 else -1
/-- behind a look at a shelf that must hold c -/
def q_wr (d hd c x : Int) : Int := if 0 ≤ d ∧ d ≤ 7 then (if hd = 0 then -11 else if hd = c then x else -12) else -1
/-- 1 where a told profile is the ground -/
def q_fg (C : Ct) (v : Int → Int) (t : Nat) : Int := if (t : Int) ≤ 14 ∧ v (t : Int) = Ct.g C (t : Int) then 1 else 0
def q_jd (C : Ct) (so : Int) (v : Int → Int) (t : Nat) : Int := if v (t : Int) = lsz so ∨ v (t : Int) = Ct.allW (Ct.days C t) then 1 else 0
def q_ths (k fg : Int) : Int := if k = 3 ∨ k = 4 ∨ fg = 0 then -15 else faF k fg
def lcg (s : Int) : Int := s * 1103515245 + 12345
def lcr (s n : Int) : Int := lcg s % 2147483648 / 65536 % n
theorem lcr_b {s n : Int} (h : 0 < n) : 0 ≤ lcr s n ∧ lcr s n ≤ n - 1 := by
  have h1 := Int.emod_nonneg (lcg s % 2147483648 / 65536) (show n ≠ 0 by omega)
  have h2 := Int.emod_lt_of_pos (lcg s % 2147483648 / 65536) h
  unfold lcr
  omega
theorem fstz_p {f : Nat → Int} {k : Nat} (h : fstz f k = -4) (h1 : f k = 1) : fstz f (k + 1) = -4 := by
  simp only [fstz]
  rw [h, h1]
  rfl
theorem fstz_f {f : Nat → Int} {k : Nat} (h : fstz f k = -4) (h1 : f k = 0) : fstz f (k + 1) = (k : Int) := by
  simp only [fstz]
  rw [h, h1]
  rfl
theorem cpz_0 (f g : Int → Int) (sp dp : Int) : cpz f g sp dp ((0 : Nat) : Int) = g := by
  funext t
  unfold cpz
  rw [if_neg (by omega)]
theorem cpz_s (f g : Int → Int) (sp dp : Int) (k : Nat) : cpz f g sp dp ((k + 1 : Nat) : Int) = upz (cpz f g sp dp (k : Int)) (dp + (k : Int)) (f (sp + (k : Int))) := by
  funext t
  show (if dp ≤ t ∧ t < dp + ((k + 1 : Nat) : Int) then f (sp + (t - dp)) else g t) = if t = dp + (k : Int) then f (sp + (k : Int)) else (if dp ≤ t ∧ t < dp + (k : Int) then f (sp + (t - dp)) else g t)
  by_cases q : t = dp + (k : Int)
  · rw [if_pos q, if_pos (by omega)]
    congr 1
    omega
  · rw [if_neg q]
    by_cases hb : dp ≤ t ∧ t < dp + (k : Int)
    · rw [if_pos hb, if_pos (by omega)]
    · rw [if_neg hb, if_neg (by omega)]
end HQSM
