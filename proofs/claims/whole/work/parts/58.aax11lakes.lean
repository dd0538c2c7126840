section HXDaa
theorem iN_shl_1 {m : Nat} (h : m < 32768) : iN (m : Int) <<< (iN 1 &&& 31) = iN ((2 * m : Nat) : Int) := by
  have e := pk_shlN (n := m) (iN 1 &&& 31) 1 (by decide) (by omega)
  rw [iN_nat, iN_nat, e]
  congr 1
  omega
theorem lk_int {m : Nat} (h : m < 32768) : iN (m : Int) &&& (iN ((2 * m : Nat) : Int) ^^^ iN (-1)) = iN ((lkf m : Nat) : Int) := by
  have hl := lk_lt h
  refine Int32.toBitVec_inj.mp (BitVec.eq_of_toNat_eq ?_)
  rw [Int32.toBitVec_and, Int32.toBitVec_xor, BitVec.toNat_and, BitVec.toNat_xor, iN_nat, iN_nat, iN_nat, pk_tn (by omega), pk_tn (by omega), pk_tn (by omega)]
  have e3 : (iN (-1)).toBitVec.toNat = 2 ^ 32 - 1 := by decide +kernel
  rw [e3]
  unfold lkf
  refine Nat.eq_of_testBit_eq (fun i => ?_)
  rw [Nat.testBit_and, Nat.testBit_and, Nat.testBit_xor, Nat.testBit_xor, Nat.testBit_two_pow_sub_one, show 65535 = 2 ^ 16 - 1 from rfl, Nat.testBit_two_pow_sub_one]
  by_cases q : i < 16
  · simp [q, show i < 32 by omega]
  · have hm : m.testBit i = false := Nat.testBit_lt_two_pow (Nat.lt_of_lt_of_le h (by
      have : 2 ^ 15 ≤ 2 ^ i := Nat.pow_le_pow_right (by decide) (by omega)
      omega))
    simp [hm]
theorem bitz_s (p : Int → Prop) [DecidablePred p] (k : Nat) : bitz p (k + 1) = bitz p k + (if p (k : Int) then 1 else 0) * 2 ^ k := by
  simp only [bitz]
  split
  · rw [Int.one_mul]
  · rw [Int.zero_mul, Int.add_zero]
theorem bitz_bit (p : Int → Prop) [DecidablePred p] : ∀ (n i : Nat), i < n → (bitz p n).toNat / 2 ^ i % 2 = if p (i : Int) then 1 else 0
  | 0, i, h => absurd h (Nat.not_lt_zero i)
  | n + 1, i, h => by
    have hb := bitz_b p n
    have hpn : (2 : Int) ^ n = ((2 ^ n : Nat) : Int) := by norm_cast
    have e : (bitz p (n + 1)).toNat = (bitz p n).toNat + 2 ^ n * (if p (n : Int) then 1 else 0) := by
      rw [bitz_s, hpn]
      split
      · rw [Int.one_mul, Nat.mul_one]; omega
      · rw [Int.zero_mul, Nat.mul_zero]; omega
    have hB : (bitz p n).toNat < 2 ^ n := by omega
    rw [e]
    by_cases q : i = n
    · subst q
      have hp : 0 < 2 ^ i := Nat.pow_pos (by decide)
      rw [Nat.add_mul_div_left _ _ hp, Nat.div_eq_of_lt hB, Nat.zero_add]
      split <;> rfl
    · have hi : i < n := by omega
      have hp : 0 < 2 ^ i := Nat.pow_pos (by decide)
      have e2 : 2 ^ n = 2 ^ i * (2 * 2 ^ (n - i - 1)) := by
        rw [← Nat.pow_succ', ← Nat.pow_add]
        congr 1
        omega
      rw [e2, Nat.mul_assoc, Nat.add_mul_div_left _ _ hp, Nat.mul_assoc, Nat.add_mul_mod_self_left]
      exact bitz_bit p n i hi
theorem lake_d {C : Ct} {m : Nat} (hm : bitz (fun c => 0 < Ct.w C c) 15 = (m : Int)) (k : Nat) (hk : k < 15) : m / 2 ^ k % 2 = if 0 < Ct.w C (k : Int) then 1 else 0 := by
  have e := bitz_bit (fun c => 0 < Ct.w C c) 15 k hk
  rw [hm, Int.toNat_natCast] at e
  exact e
theorem lake_t {C : Ct} (hW : WFc C) {m : Nat} (hm : bitz (fun c => 0 < Ct.w C c) 15 = (m : Int)) (k : Nat) (hk : k < 14) : ((if m / 2 ^ (k + 1) % 2 = 1 ∧ m / 2 ^ k % 2 = 0 then 1 else 0 : Nat) : Int) = q_lake C (k : Int) := by
  have b1 := WFc.w hW (k : Int)
  have d1 := lake_d hm k (by omega)
  have d2 := lake_d hm (k + 1) (by omega)
  rw [show ((k + 1 : Nat) : Int) = (k : Int) + 1 by omega] at d2
  unfold q_lake
  by_cases h1 : 0 < Ct.w C ((k : Int) + 1)
  · rw [if_pos h1] at d2
    by_cases h2 : 0 < Ct.w C (k : Int)
    · rw [if_pos h2] at d1
      rw [if_neg (by omega), if_neg (by omega)]
      rfl
    · rw [if_neg h2] at d1
      rw [if_pos (by omega), if_pos ⟨h1, by omega⟩]
      rfl
  · rw [if_neg h1] at d2
    rw [if_neg (by omega), if_neg (fun z => h1 z.1)]
    rfl
theorem lakes_eq {C : Ct} (hW : WFc C) {m : Nat} (hm : bitz (fun c => 0 < Ct.w C c) 15 = (m : Int)) : (rns m : Int) = q_lakes C := by
  have w0 : Ct.w C ((0 : Nat) : Int) = 0 := by
    rw [w_at C 0 (by decide)]
    have h1 := WFc.g hW ((0 : Nat) : Int)
    have h2 := rmx_b (WFc.g hW) (14 - 0)
    have h3 : lmx (Ct.g C) 0 = 0 := rfl
    omega
  have w14 : Ct.w C ((13 : Nat) + 1 : Int) = 0 := by
    have e := w_at C 14 (by decide)
    have h1 := WFc.g hW ((14 : Nat) : Int)
    have h2 := lmx_b (WFc.g hW) 14
    have h3 : rmx (Ct.g C) (14 - 14) = 0 := rfl
    show Ct.w C ((14 : Nat) : Int) = 0
    omega
  have d0 : m % 2 = 0 := by
    have e := lake_d hm 0 (by decide)
    rw [Nat.pow_zero, Nat.div_one, w0] at e
    exact e
  have t13 : q_lake C ((13 : Nat) : Int) = 0 := by
    unfold q_lake
    rw [w14]
    rfl
  have t0' : ((if m / 2 % 2 = 1 ∧ m / 1 % 2 = 0 then 1 else 0 : Nat) : Int) = q_lake C ((0 : Nat) : Int) := lake_t hW hm 0 (by decide)
  have t1' : ((if m / 4 % 2 = 1 ∧ m / 2 % 2 = 0 then 1 else 0 : Nat) : Int) = q_lake C ((1 : Nat) : Int) := lake_t hW hm 1 (by decide)
  have t2' : ((if m / 8 % 2 = 1 ∧ m / 4 % 2 = 0 then 1 else 0 : Nat) : Int) = q_lake C ((2 : Nat) : Int) := lake_t hW hm 2 (by decide)
  have t3' : ((if m / 16 % 2 = 1 ∧ m / 8 % 2 = 0 then 1 else 0 : Nat) : Int) = q_lake C ((3 : Nat) : Int) := lake_t hW hm 3 (by decide)
  have t4' : ((if m / 32 % 2 = 1 ∧ m / 16 % 2 = 0 then 1 else 0 : Nat) : Int) = q_lake C ((4 : Nat) : Int) := lake_t hW hm 4 (by decide)
  have t5' : ((if m / 64 % 2 = 1 ∧ m / 32 % 2 = 0 then 1 else 0 : Nat) : Int) = q_lake C ((5 : Nat) : Int) := lake_t hW hm 5 (by decide)
  have t6' : ((if m / 128 % 2 = 1 ∧ m / 64 % 2 = 0 then 1 else 0 : Nat) : Int) = q_lake C ((6 : Nat) : Int) := lake_t hW hm 6 (by decide)
  have t7' : ((if m / 256 % 2 = 1 ∧ m / 128 % 2 = 0 then 1 else 0 : Nat) : Int) = q_lake C ((7 : Nat) : Int) := lake_t hW hm 7 (by decide)
  have t8' : ((if m / 512 % 2 = 1 ∧ m / 256 % 2 = 0 then 1 else 0 : Nat) : Int) = q_lake C ((8 : Nat) : Int) := lake_t hW hm 8 (by decide)
  have t9' : ((if m / 1024 % 2 = 1 ∧ m / 512 % 2 = 0 then 1 else 0 : Nat) : Int) = q_lake C ((9 : Nat) : Int) := lake_t hW hm 9 (by decide)
  have t10' : ((if m / 2048 % 2 = 1 ∧ m / 1024 % 2 = 0 then 1 else 0 : Nat) : Int) = q_lake C ((10 : Nat) : Int) := lake_t hW hm 10 (by decide)
  have t11' : ((if m / 4096 % 2 = 1 ∧ m / 2048 % 2 = 0 then 1 else 0 : Nat) : Int) = q_lake C ((11 : Nat) : Int) := lake_t hW hm 11 (by decide)
  have t12' : ((if m / 8192 % 2 = 1 ∧ m / 4096 % 2 = 0 then 1 else 0 : Nat) : Int) = q_lake C ((12 : Nat) : Int) := lake_t hW hm 12 (by decide)
  have t13' : ((if m / 16384 % 2 = 1 ∧ m / 8192 % 2 = 0 then 1 else 0 : Nat) : Int) = q_lake C ((13 : Nat) : Int) := lake_t hW hm 13 (by decide)
  have hr : rns m = m % 2 + (if m / 2 % 2 = 1 ∧ m / 1 % 2 = 0 then 1 else 0) + (if m / 4 % 2 = 1 ∧ m / 2 % 2 = 0 then 1 else 0) + (if m / 8 % 2 = 1 ∧ m / 4 % 2 = 0 then 1 else 0) + (if m / 16 % 2 = 1 ∧ m / 8 % 2 = 0 then 1 else 0) + (if m / 32 % 2 = 1 ∧ m / 16 % 2 = 0 then 1 else 0) + (if m / 64 % 2 = 1 ∧ m / 32 % 2 = 0 then 1 else 0) + (if m / 128 % 2 = 1 ∧ m / 64 % 2 = 0 then 1 else 0) + (if m / 256 % 2 = 1 ∧ m / 128 % 2 = 0 then 1 else 0) + (if m / 512 % 2 = 1 ∧ m / 256 % 2 = 0 then 1 else 0) + (if m / 1024 % 2 = 1 ∧ m / 512 % 2 = 0 then 1 else 0) + (if m / 2048 % 2 = 1 ∧ m / 1024 % 2 = 0 then 1 else 0) + (if m / 4096 % 2 = 1 ∧ m / 2048 % 2 = 0 then 1 else 0) + (if m / 8192 % 2 = 1 ∧ m / 4096 % 2 = 0 then 1 else 0) + (if m / 16384 % 2 = 1 ∧ m / 8192 % 2 = 0 then 1 else 0) := rfl
  have hq : q_lakes C = 0 + q_lake C ((0 : Nat) : Int) + q_lake C ((1 : Nat) : Int) + q_lake C ((2 : Nat) : Int) + q_lake C ((3 : Nat) : Int) + q_lake C ((4 : Nat) : Int) + q_lake C ((5 : Nat) : Int) + q_lake C ((6 : Nat) : Int) + q_lake C ((7 : Nat) : Int) + q_lake C ((8 : Nat) : Int) + q_lake C ((9 : Nat) : Int) + q_lake C ((10 : Nat) : Int) + q_lake C ((11 : Nat) : Int) + q_lake C ((12 : Nat) : Int) := rfl
  rw [hq, hr]
  simp only [Int.natCast_add]
  rw [t0', t1', t2', t3', t4', t5', t6', t7', t8', t9', t10', t11', t12', t13', t13, d0]
  omega
theorem cmpz_n {C : Ct} {i c : Int} {k : Nat} (h : ¬ ((cmpz C i c k < 0 ∨ (pc6 k : Int) < (pc6 (cmpz C i c k).toNat : Int)) ∧ ¬ btz (k : Int) i ∧ q_gets C i (k : Int) c)) : cmpz C i c (k + 1) = cmpz C i c k := by
  simp only [cmpz]
  rw [if_neg h]
theorem cmpz_y {C : Ct} {i c : Int} {k : Nat} (h : (cmpz C i c k < 0 ∨ (pc6 k : Int) < (pc6 (cmpz C i c k).toNat : Int)) ∧ ¬ btz (k : Int) i ∧ q_gets C i (k : Int) c) : cmpz C i c (k + 1) = (k : Int) := by
  simp only [cmpz]
  rw [if_pos h]
theorem hrz_n {C : Ct} {i c : Int} {k : Nat} (h : ¬ ((hrz C i c k < 0 ∨ q_pay C (k : Int) < q_pay C (hrz C i c k)) ∧ ¬ btz (k : Int) i ∧ q_gets C i (k : Int) c)) : hrz C i c (k + 1) = hrz C i c k := by
  simp only [hrz]
  rw [if_neg h]
theorem hrz_y {C : Ct} {i c : Int} {k : Nat} (h : (hrz C i c k < 0 ∨ q_pay C (k : Int) < q_pay C (hrz C i c k)) ∧ ¬ btz (k : Int) i ∧ q_gets C i (k : Int) c) : hrz C i c (k + 1) = (k : Int) := by
  simp only [hrz]
  rw [if_pos h]
theorem siw_p {C : Ct} (hW : WFc C) (i : Int) : ∀ k, 0 < k → k ≤ 15 → 0 ≤ siw C i k
  | 0, h, _ => absurd h (Nat.lt_irrefl 0)
  | k + 1, _, h => by
    have h1 := siw_b hW i k (by omega)
    have h2 : 0 ≤ swz C i (k : Int) := by
      have hp : WFc (Ct.set_po C (upz (Ct.po C) i (k : Int))) := hW.posn (bd_upz hW.po (by omega))
      have := WFc.allW hp
      unfold swz
      omega
    simp only [siw]
    split <;> omega
theorem in_X11_lakes_X11 : ∀ w ∈ u_ws RX11 TX11 6, w ∈ wsX11_lakes := by decide +kernel
theorem ok_X11_lakes : okY yX11_lakes 0 := by decide +kernel
def rmX11_lakes : Room := { frames := 3, cells := 0, slots := 0, locals := 105 }
set_option maxRecDepth 100000 in
set_option maxHeartbeats 400000 in
theorem c_X11_lakes (l : Launch) (γ : GX) (b : Nat → Nat) (F : Nat → Sh) (N M P : Ct) (hp sd : Int) (hN : WFc N) (hF : ∀ t : Nat, t < 8 → WFs (F t)) : MI l γ yX11_lakes wsX11_lakes rmX11_lakes [.ref (b 0)] (WX γ b F N M P hp sd) (fun r_ w_ => r_ = q_lakes N ∧ Wc γ b F N P hp w_) 0 0 := by
  refine MI.of (cc := cX11_lakes) (maxL := 2) (rt := .int) RX11 rfl (by decide +kernel) rfl (Nat.le_of_ble_eq_true rfl) ?_
  intro X C hγ hl hnm hret
  subst hγ
  have hNn := WFc.n hN
  show Wx X 0 0 (WX X.γ b F N M P hp sd) 0 [(0, .ref (b 0))] []
  refine x_aload_n C 0 rfl rfl dX11_lakes_0 ?_
  refine x_get C in_X11_lakes_X11 0 rfl rfl 1 (by decide) (List.mem_of_getElem? (i := 1) rfl) rfl (v := .ref (b 27)) rfl dX11_lakes_1 ?_
  refine x_V_I C (As := []) (rest := []) 0 27 rfl rfl gX11_lakes_X1_wetCells rfl (MI.fN b F N M P hp sd (fun r Z => r = (bitz (fun c => 0 < Ct.w N c) 15) ∧ (Ct.set_wa N (Ct.w N)) = Z) (c_X1_wetCells _ _ (adN b) N hN) (fun r w h => ⟨_, ⟨h.1, rfl⟩, h.2⟩)) rfl ok_X1_wetCells rfl rfl rfl rfl dX11_lakes_4 (fun r w1 hp => ?_)
  obtain ⟨_, ⟨rfl, rfl⟩, rfl⟩ := hp
  show Wx X 0 0 (WX X.γ b F (Ct.set_wa N (Ct.w N)) M P hp sd) 7 [(0, .ref (b 0))] [.int (iN (bitz (fun c => 0 < Ct.w N c) 15))]
  show Wx X 0 0 (WX X.γ b F (Ct.set_wa N (Ct.w N)) M P hp sd) 7 [(0, .ref (b 0))] [.int (iN (bitz (fun c => 0 < Ct.w N c) 15))]
  have b114 := bitz_b (fun c => 0 < Ct.w N c) 15
  obtain ⟨m, hm⟩ : ∃ m : Nat, bitz (fun c => 0 < Ct.w N c) 15 = (m : Int) := ⟨(bitz (fun c => 0 < Ct.w N c) 15).toNat, by omega⟩
  rw [hm]
  have hm2 : m < 32768 := by have := bitz_b (fun c => 0 < Ct.w N c) 15; omega
  refine x_istore_n C [(1, .int (iN ((m : Int)))), (0, .ref (b 0))] rfl (by decide) rfl dX11_lakes_7 ?_
  refine x_iload_n C 0 rfl rfl dX11_lakes_8 ?_
  refine x_iload_n C 0 rfl rfl dX11_lakes_9 ?_
  refine x_iconst (v := 0) C dX11_lakes_10 ?_
  refine x_ishl C ((2 * m : Nat) : Int) (iN_shl_1 hm2) dX11_lakes_11 ?_
  refine x_iconst (v := 0) C dX11_lakes_12 ?_
  refine x_ixor C ((iN ((2 * m : Nat) : Int) ^^^ iN (-1)).toInt) (iN_of _).symm dX11_lakes_13 ?_
  refine x_iand C ((lkf m : Nat) : Int) (by rw [iN_of]; exact lk_int hm2) dX11_lakes_14 ?_
  have hlk := lk_lt hm2
  refine x_S_I C (As := [.int (iN (((lkf m : Nat) : Int)))]) (rest := []) 1 gX11_lakes_J6_bitCount_0f7a4 (c_J6_bitCount_0f7a4 _ _ (WX X.γ b F (Ct.set_wa N (Ct.w N)) M P hp sd) (((lkf m : Nat) : Int)) (by omega)) rfl ok_J6_bitCount_0f7a4 rfl rfl rfl rfl dX11_lakes_15 (fun r w1 hp => ?_)
  obtain ⟨rfl, rfl⟩ := hp
  show Wx X 0 0 (WX X.γ b F (Ct.set_wa N (Ct.w N)) M P hp sd) 18 [(1, .int (iN ((m : Int)))), (0, .ref (b 0))] [.int (iN ((pcn (((lkf m : Nat) : Int)).toNat : Int)))]
  exact hret _ _ _ _ dX11_lakes_18 rfl ⟨(by rw [Int.toNat_natCast, lk_eq]; exact lakes_eq hN hm), ⟨(Ct.w N), (Ct.wa P), _, _, rfl⟩⟩
end HXDaa
