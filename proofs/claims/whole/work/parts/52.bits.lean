section HBIT
/-- ones of a number below 32768 -/
def pcn (n : Nat) : Nat := n % 2 + n / 2 % 2 + n / 4 % 2 + n / 8 % 2 + n / 16 % 2 + n / 32 % 2 + n / 64 % 2 + n / 128 % 2 + n / 256 % 2 + n / 512 % 2 + n / 1024 % 2 + n / 2048 % 2 + n / 4096 % 2 + n / 8192 % 2 + n / 16384 % 2
def bc1 (m : Nat) : Nat := m - (m / 2 ^ 1 &&& 1431655765)
def bc2 (y : Nat) : Nat := (y &&& 858993459) + (y / 2 ^ 2 &&& 858993459)
def bc3 (y : Nat) : Nat := (y + y / 2 ^ 4) &&& 252645135
def bc4 (y : Nat) : Nat := y + y / 2 ^ 8
def bc5 (y : Nat) : Nat := y + y / 2 ^ 16
def bc6 (y : Nat) : Nat := y &&& 63
def bcf (m : Nat) : Nat := bc6 (bc5 (bc4 (bc3 (bc2 (bc1 m)))))
/-- n and not twice n -/
def lkf (n : Nat) : Nat := n &&& ((2 * n) ^^^ 65535)
/-- ones that stand above a 0 -/
def rns (n : Nat) : Nat := n % 2 + (if n / 2 % 2 = 1 ∧ n / 1 % 2 = 0 then 1 else 0) + (if n / 4 % 2 = 1 ∧ n / 2 % 2 = 0 then 1 else 0) + (if n / 8 % 2 = 1 ∧ n / 4 % 2 = 0 then 1 else 0) + (if n / 16 % 2 = 1 ∧ n / 8 % 2 = 0 then 1 else 0) + (if n / 32 % 2 = 1 ∧ n / 16 % 2 = 0 then 1 else 0) + (if n / 64 % 2 = 1 ∧ n / 32 % 2 = 0 then 1 else 0) + (if n / 128 % 2 = 1 ∧ n / 64 % 2 = 0 then 1 else 0) + (if n / 256 % 2 = 1 ∧ n / 128 % 2 = 0 then 1 else 0) + (if n / 512 % 2 = 1 ∧ n / 256 % 2 = 0 then 1 else 0) + (if n / 1024 % 2 = 1 ∧ n / 512 % 2 = 0 then 1 else 0) + (if n / 2048 % 2 = 1 ∧ n / 1024 % 2 = 0 then 1 else 0) + (if n / 4096 % 2 = 1 ∧ n / 2048 % 2 = 0 then 1 else 0) + (if n / 8192 % 2 = 1 ∧ n / 4096 % 2 = 0 then 1 else 0) + (if n / 16384 % 2 = 1 ∧ n / 8192 % 2 = 0 then 1 else 0)
theorem bc_all : ∀ x : Nat, x < 128 → ∀ y : Nat, y < 256 → bcf (256 * x + y) = pcn (256 * x + y) := by decide +kernel
theorem bc_eq {n : Nat} (h : n < 32768) : bcf n = pcn n := by
  have e := bc_all (n / 256) (by omega) (n % 256) (by omega)
  rw [show 256 * (n / 256) + n % 256 = n by omega] at e
  exact e
theorem lk_t (n i : Nat) (hi : i < 14) : (lkf n).testBit (i + 1) = (n.testBit (i + 1) && !(n.testBit i)) := by
  have h2 : (2 * n).testBit (i + 1) = n.testBit i := by
    rw [Nat.testBit_eq_decide_div_mod_eq, Nat.testBit_eq_decide_div_mod_eq, Nat.pow_succ, Nat.mul_comm (2 ^ i) 2, Nat.mul_div_mul_left _ _ (by decide)]
  unfold lkf
  rw [Nat.testBit_and, Nat.testBit_xor, h2, show 65535 = 2 ^ 16 - 1 from rfl, Nat.testBit_two_pow_sub_one]
  simp [show i + 1 < 16 by omega]
theorem lk_bit (n i : Nat) (hi : i < 14) : lkf n / 2 ^ (i + 1) % 2 = if n / 2 ^ (i + 1) % 2 = 1 ∧ n / 2 ^ i % 2 = 0 then 1 else 0 := by
  have e := lk_t n i hi
  rw [Nat.testBit_eq_decide_div_mod_eq, Nat.testBit_eq_decide_div_mod_eq, Nat.testBit_eq_decide_div_mod_eq] at e
  by_cases h1 : n / 2 ^ (i + 1) % 2 = 1
  · by_cases h2 : n / 2 ^ i % 2 = 1
    · rw [if_neg (by omega)]
      simp [h1, h2] at e
      omega
    · rw [if_pos (by omega)]
      simp [h1, h2] at e
      omega
  · rw [if_neg (by omega)]
    simp [h1] at e
    omega
theorem lk_bit0 (n : Nat) : lkf n % 2 = n % 2 := by
  have e : (lkf n).testBit 0 = n.testBit 0 := by
    unfold lkf
    rw [Nat.testBit_and, Nat.testBit_xor, show 65535 = 2 ^ 16 - 1 from rfl, Nat.testBit_two_pow_sub_one]
    have h2 : (2 * n).testBit 0 = false := by
      rw [Nat.testBit_eq_decide_div_mod_eq, Nat.pow_zero, Nat.div_one]
      simp
    rw [h2]
    simp
  rw [Nat.testBit_eq_decide_div_mod_eq, Nat.testBit_eq_decide_div_mod_eq, Nat.pow_zero, Nat.div_one, Nat.div_one] at e
  have e2 := decide_eq_decide.mp e
  omega
theorem lk_eq (n : Nat) : pcn (lkf n) = rns n := by
  have h0 : lkf n / 2 % 2 = if n / 2 % 2 = 1 ∧ n / 1 % 2 = 0 then 1 else 0 := lk_bit n 0 (by decide)
  have h1 : lkf n / 4 % 2 = if n / 4 % 2 = 1 ∧ n / 2 % 2 = 0 then 1 else 0 := lk_bit n 1 (by decide)
  have h2 : lkf n / 8 % 2 = if n / 8 % 2 = 1 ∧ n / 4 % 2 = 0 then 1 else 0 := lk_bit n 2 (by decide)
  have h3 : lkf n / 16 % 2 = if n / 16 % 2 = 1 ∧ n / 8 % 2 = 0 then 1 else 0 := lk_bit n 3 (by decide)
  have h4 : lkf n / 32 % 2 = if n / 32 % 2 = 1 ∧ n / 16 % 2 = 0 then 1 else 0 := lk_bit n 4 (by decide)
  have h5 : lkf n / 64 % 2 = if n / 64 % 2 = 1 ∧ n / 32 % 2 = 0 then 1 else 0 := lk_bit n 5 (by decide)
  have h6 : lkf n / 128 % 2 = if n / 128 % 2 = 1 ∧ n / 64 % 2 = 0 then 1 else 0 := lk_bit n 6 (by decide)
  have h7 : lkf n / 256 % 2 = if n / 256 % 2 = 1 ∧ n / 128 % 2 = 0 then 1 else 0 := lk_bit n 7 (by decide)
  have h8 : lkf n / 512 % 2 = if n / 512 % 2 = 1 ∧ n / 256 % 2 = 0 then 1 else 0 := lk_bit n 8 (by decide)
  have h9 : lkf n / 1024 % 2 = if n / 1024 % 2 = 1 ∧ n / 512 % 2 = 0 then 1 else 0 := lk_bit n 9 (by decide)
  have h10 : lkf n / 2048 % 2 = if n / 2048 % 2 = 1 ∧ n / 1024 % 2 = 0 then 1 else 0 := lk_bit n 10 (by decide)
  have h11 : lkf n / 4096 % 2 = if n / 4096 % 2 = 1 ∧ n / 2048 % 2 = 0 then 1 else 0 := lk_bit n 11 (by decide)
  have h12 : lkf n / 8192 % 2 = if n / 8192 % 2 = 1 ∧ n / 4096 % 2 = 0 then 1 else 0 := lk_bit n 12 (by decide)
  have h13 : lkf n / 16384 % 2 = if n / 16384 % 2 = 1 ∧ n / 8192 % 2 = 0 then 1 else 0 := lk_bit n 13 (by decide)
  unfold pcn rns
  rw [lk_bit0, h0, h1, h2, h3, h4, h5, h6, h7, h8, h9, h10, h11, h12, h13]
theorem lk_lt {n : Nat} (h : n < 32768) : lkf n < 32768 := Nat.lt_of_le_of_lt Nat.and_le_left h
theorem pcn_6 {n : Nat} (h : n < 64) : pcn n = pc6 n := by
  unfold pcn pc6
  omega
theorem iN_andL {x : Nat} {M : Int} (b : Nat) (hM : M = (b : Int)) (ha : x < 2147483648) (hb : b < 2147483648) : iN (x : Int) &&& iN M = iN ((x &&& b : Nat) : Int) := by
  subst hM
  exact iN_andN ha hb
theorem ok_J6_bitCount_0f7a4 : okY yJ6_bitCount_0f7a4 1 := by decide +kernel
def rmJ6_bitCount_0f7a4 : Room := { frames := 0, cells := 0, slots := 0, locals := 0 }
set_option maxRecDepth 100000 in
set_option maxHeartbeats 400000 in
theorem c_J6_bitCount_0f7a4 (l : Launch) (γ : GX) (w0 : va_W) (n : Int) (h0_ : 0 ≤ n ∧ n < 32768) : MI l γ yJ6_bitCount_0f7a4 wsJ6_bitCount_0f7a4 rmJ6_bitCount_0f7a4 [.int (iN (n))] w0 (fun r_ w_ => r_ = ((pcn n.toNat : Int)) ∧ w_ = w0) 0 0 := by
  refine MI.of (cc := cJ6_bitCount_0f7a4) (maxL := 1) (rt := .int) RJ6 rfl (by decide +kernel) rfl (Nat.le_of_ble_eq_true rfl) ?_
  intro X C hγ hl hnm hret
  subst hγ
  show Wx X 0 0 w0 0 [(0, .int (iN (n)))] []
  obtain ⟨m, rfl⟩ : ∃ m : Nat, n = (m : Int) := ⟨n.toNat, by omega⟩
  show Wx X 0 0 w0 0 [(0, .int (iN (((m : Nat) : Int))))] []
  refine x_iload_n C 0 rfl rfl dJ6_bitCount_0f7a4_0 ?_
  refine x_iload_n C 0 rfl rfl dJ6_bitCount_0f7a4_1 ?_
  refine x_iconst (v := 0) C dJ6_bitCount_0f7a4_2 ?_
  refine x_iushr C ((m / 2 ^ 1 : Nat) : Int) (by rw [iN_nat, iN_nat]; exact pk_ushrN (by omega) _ 1 (by decide)) dJ6_bitCount_0f7a4_3 ?_
  refine x_ldcw C (1431655765) (List.mem_of_getElem? (i := 1) rfl) (by decide) dJ6_bitCount_0f7a4_4 ?_
  refine x_iand C (((m / 2 ^ 1) &&& 1431655765 : Nat) : Int) (iN_andL 1431655765 rfl (by omega) (by omega)) dJ6_bitCount_0f7a4_7 ?_
  have ha1 := Nat.and_le_left (n := m / 2 ^ 1) (m := 1431655765)
  refine x_isub C dJ6_bitCount_0f7a4_8 ?_
  obtain ⟨y1, hy1⟩ : ∃ z : Nat, m - ((m / 2 ^ 1) &&& 1431655765) = z := ⟨_, rfl⟩
  rw [show ((m : Nat) : Int) - (((m / 2 ^ 1) &&& 1431655765 : Nat) : Int) = ((y1 : Nat) : Int) from by omega]
  refine x_istore_n C [(0, .int (iN (((y1 : Nat) : Int))))] rfl (by decide) rfl dJ6_bitCount_0f7a4_9 ?_
  refine x_iload_n C 0 rfl rfl dJ6_bitCount_0f7a4_10 ?_
  refine x_ldcw C (858993459) (List.mem_of_getElem? (i := 2) rfl) (by decide) dJ6_bitCount_0f7a4_11 ?_
  refine x_iand C ((y1 &&& 858993459 : Nat) : Int) (iN_andL 858993459 rfl (by omega) (by omega)) dJ6_bitCount_0f7a4_14 ?_
  have ha2 := Nat.and_le_left (n := y1) (m := 858993459)
  refine x_iload_n C 0 rfl rfl dJ6_bitCount_0f7a4_15 ?_
  refine x_iconst (v := 0) C dJ6_bitCount_0f7a4_16 ?_
  refine x_iushr C ((y1 / 2 ^ 2 : Nat) : Int) (by rw [iN_nat, iN_nat]; exact pk_ushrN (by omega) _ 2 (by decide)) dJ6_bitCount_0f7a4_17 ?_
  refine x_ldcw C (858993459) (List.mem_of_getElem? (i := 2) rfl) (by decide) dJ6_bitCount_0f7a4_18 ?_
  refine x_iand C (((y1 / 2 ^ 2) &&& 858993459 : Nat) : Int) (iN_andL 858993459 rfl (by omega) (by omega)) dJ6_bitCount_0f7a4_21 ?_
  have ha3 := Nat.and_le_left (n := y1 / 2 ^ 2) (m := 858993459)
  refine x_iadd C dJ6_bitCount_0f7a4_22 ?_
  obtain ⟨y2, hy2⟩ : ∃ z : Nat, (y1 &&& 858993459) + ((y1 / 2 ^ 2) &&& 858993459) = z := ⟨_, rfl⟩
  rw [show ((y1 &&& 858993459 : Nat) : Int) + (((y1 / 2 ^ 2) &&& 858993459 : Nat) : Int) = ((y2 : Nat) : Int) from by omega]
  refine x_istore_n C [(0, .int (iN (((y2 : Nat) : Int))))] rfl (by decide) rfl dJ6_bitCount_0f7a4_23 ?_
  refine x_iload_n C 0 rfl rfl dJ6_bitCount_0f7a4_24 ?_
  refine x_iload_n C 0 rfl rfl dJ6_bitCount_0f7a4_25 ?_
  refine x_iconst (v := 0) C dJ6_bitCount_0f7a4_26 ?_
  refine x_iushr C ((y2 / 2 ^ 4 : Nat) : Int) (by rw [iN_nat, iN_nat]; exact pk_ushrN (by omega) _ 4 (by decide)) dJ6_bitCount_0f7a4_27 ?_
  refine x_iadd C dJ6_bitCount_0f7a4_28 ?_
  obtain ⟨y3, hy3⟩ : ∃ z : Nat, y2 + (y2 / 2 ^ 4) = z := ⟨_, rfl⟩
  rw [show ((y2 : Nat) : Int) + ((y2 / 2 ^ 4 : Nat) : Int) = ((y3 : Nat) : Int) from by omega]
  refine x_ldcw C (252645135) (List.mem_of_getElem? (i := 3) rfl) (by decide) dJ6_bitCount_0f7a4_29 ?_
  refine x_iand C ((y3 &&& 252645135 : Nat) : Int) (iN_andL 252645135 rfl (by omega) (by omega)) dJ6_bitCount_0f7a4_32 ?_
  have ha4 := Nat.and_le_left (n := y3) (m := 252645135)
  obtain ⟨y4, hy4⟩ : ∃ z : Nat, y3 &&& 252645135 = z := ⟨_, rfl⟩
  rw [show ((y3 &&& 252645135 : Nat) : Int) = ((y4 : Nat) : Int) from by omega]
  refine x_istore_n C [(0, .int (iN (((y4 : Nat) : Int))))] rfl (by decide) rfl dJ6_bitCount_0f7a4_33 ?_
  refine x_iload_n C 0 rfl rfl dJ6_bitCount_0f7a4_34 ?_
  refine x_iload_n C 0 rfl rfl dJ6_bitCount_0f7a4_35 ?_
  refine x_bipush C (8) (by decide) dJ6_bitCount_0f7a4_36 ?_
  refine x_iushr C ((y4 / 2 ^ 8 : Nat) : Int) (by rw [iN_nat, iN_nat]; exact pk_ushrN (by omega) _ 8 (by decide)) dJ6_bitCount_0f7a4_38 ?_
  refine x_iadd C dJ6_bitCount_0f7a4_39 ?_
  obtain ⟨y5, hy5⟩ : ∃ z : Nat, y4 + (y4 / 2 ^ 8) = z := ⟨_, rfl⟩
  rw [show ((y4 : Nat) : Int) + ((y4 / 2 ^ 8 : Nat) : Int) = ((y5 : Nat) : Int) from by omega]
  refine x_istore_n C [(0, .int (iN (((y5 : Nat) : Int))))] rfl (by decide) rfl dJ6_bitCount_0f7a4_40 ?_
  refine x_iload_n C 0 rfl rfl dJ6_bitCount_0f7a4_41 ?_
  refine x_iload_n C 0 rfl rfl dJ6_bitCount_0f7a4_42 ?_
  refine x_bipush C (16) (by decide) dJ6_bitCount_0f7a4_43 ?_
  refine x_iushr C ((y5 / 2 ^ 16 : Nat) : Int) (by rw [iN_nat, iN_nat]; exact pk_ushrN (by omega) _ 16 (by decide)) dJ6_bitCount_0f7a4_45 ?_
  refine x_iadd C dJ6_bitCount_0f7a4_46 ?_
  obtain ⟨y6, hy6⟩ : ∃ z : Nat, y5 + (y5 / 2 ^ 16) = z := ⟨_, rfl⟩
  rw [show ((y5 : Nat) : Int) + ((y5 / 2 ^ 16 : Nat) : Int) = ((y6 : Nat) : Int) from by omega]
  refine x_istore_n C [(0, .int (iN (((y6 : Nat) : Int))))] rfl (by decide) rfl dJ6_bitCount_0f7a4_47 ?_
  refine x_iload_n C 0 rfl rfl dJ6_bitCount_0f7a4_48 ?_
  refine x_bipush C (63) (by decide) dJ6_bitCount_0f7a4_49 ?_
  refine x_iand C ((y6 &&& 63 : Nat) : Int) (iN_andL 63 rfl (by omega) (by omega)) dJ6_bitCount_0f7a4_51 ?_
  have ha5 := Nat.and_le_left (n := y6) (m := 63)
  exact hret _ _ _ _ dJ6_bitCount_0f7a4_52 rfl ⟨(by have e : y6 &&& 63 = bcf m := (by unfold bcf bc6 bc5 bc4 bc3 bc2 bc1; rw [hy1, hy2, hy3, hy4, hy5, hy6]); rw [show (m : Int).toNat = m from Int.toNat_natCast m, ← bc_eq (by omega), e]), rfl⟩
end HBIT
