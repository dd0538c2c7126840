section HMOD
theorem ok_X12_in : okY yX12_in 3 := by decide +kernel
def rmX12_in : Room := { frames := 0, cells := 0, slots := 0, locals := 0 }
set_option maxRecDepth 100000 in
set_option maxHeartbeats 400000 in
theorem c_X12_in (l : Launch) (γ : GX) (w0 : va_W) (v : Int) (lo : Int) (hi : Int) (h0_ : -9223372036854775808 ≤ v ∧ v < 9223372036854775808) (h1_ : -9223372036854775808 ≤ lo ∧ lo < 9223372036854775808) (h2_ : -9223372036854775808 ≤ hi ∧ hi < 9223372036854775808) : MI l γ yX12_in wsX12_in rmX12_in [.long (jN (v)), .long (jN (lo)), .long (jN (hi))] w0 (fun r_ w_ => r_ = bz (lo ≤ v ∧ v ≤ hi) ∧ w_ = w0) 0 0 := by
  refine MI.of (cc := cX12_in) (maxL := 6) (rt := .boolean) RX12 rfl (by decide +kernel) rfl (Nat.le_of_ble_eq_true rfl) ?_
  intro X C hγ hl hnm hret
  subst hγ
  show Wx X 0 0 w0 0 [(0, .long (jN (v))), (2, .long (jN (lo))), (4, .long (jN (hi)))] []
  refine x_lload_n C 0 rfl rfl dX12_in_0 ?_
  refine x_lload_n C 1 rfl rfl dX12_in_1 ?_
  refine x_lcmp_lt C 17 (by decide) (by omega) dX12_in_2 dX12_in_3 (fun c_2 => ?_) (fun c_2 => ?_)
  · refine x_iconst (v := 0) C dX12_in_17 ?_
    exact hret _ _ _ _ dX12_in_18 (nar_z (by decide)) ⟨(bz_f (by omega)).symm, rfl⟩
  · refine x_lload_n C 0 rfl rfl dX12_in_6 ?_
    refine x_lload C 2 rfl dX12_in_7 ?_
    refine x_lcmp_gt C 17 (by decide) (by omega) dX12_in_9 dX12_in_10 (fun c_9 => ?_) (fun c_9 => ?_)
    · refine x_iconst (v := 0) C dX12_in_17 ?_
      exact hret _ _ _ _ dX12_in_18 (nar_z (by decide)) ⟨(bz_f (by omega)).symm, rfl⟩
    · refine x_iconst (v := 0) C dX12_in_13 ?_
      refine x_goto C 18 (by decide) dX12_in_14 ?_
      exact hret _ _ _ _ dX12_in_18 (nar_z (by decide)) ⟨(bz_t (by omega)).symm, rfl⟩
theorem ok_X12_hasBit : okY yX12_hasBit 2 := by decide +kernel
def rmX12_hasBit : Room := { frames := 0, cells := 0, slots := 0, locals := 0 }
set_option maxRecDepth 100000 in
set_option maxHeartbeats 400000 in
theorem c_X12_hasBit (l : Launch) (γ : GX) (w0 : va_W) (bits : Int) (w : Int) (h0_ : 0 ≤ bits ∧ bits < 2147483648) (h1_ : 0 ≤ w ∧ w < 32) : MI l γ yX12_hasBit wsX12_hasBit rmX12_hasBit [.int (iN (bits)), .int (iN (w))] w0 (fun r_ w_ => r_ = bz (btz bits w) ∧ w_ = w0) 0 0 := by
  refine MI.of (cc := cX12_hasBit) (maxL := 2) (rt := .boolean) RX12 rfl (by decide +kernel) rfl (Nat.le_of_ble_eq_true rfl) ?_
  intro X C hγ hl hnm hret
  subst hγ
  show Wx X 0 0 w0 0 [(0, .int (iN (bits))), (1, .int (iN (w)))] []
  refine x_iload_n C 0 rfl rfl dX12_hasBit_0 ?_
  refine x_iload_n C 1 rfl rfl dX12_hasBit_1 ?_
  refine x_ishr C (bits / 2 ^ (w).toNat) (iN_shr (by omega) (by omega)) dX12_hasBit_2 ?_
  have hq1 : 0 ≤ bits / 2 ^ w.toNat := Int.ediv_nonneg h0_.1 (Int.le_of_lt (Int.pow_pos (by decide)))
  have hq2 : bits / 2 ^ w.toNat ≤ bits := Int.ediv_le_self _ h0_.1
  refine x_iconst (v := 0) C dX12_hasBit_3 ?_
  refine x_iand C ((bits / 2 ^ (w).toNat) % 2) (iN_and1 (by omega)) dX12_hasBit_4 ?_
  refine x_iconst (v := 0) C dX12_hasBit_5 ?_
  refine x_icmp_ne C 13 (by decide) (by omega) dX12_hasBit_6 (fun c_6 => ?_) (fun c_6 => ?_)
  · refine x_iconst (v := 0) C dX12_hasBit_13 ?_
    exact hret _ _ _ _ dX12_hasBit_14 (nar_z (by decide)) ⟨(bz_f (by omega)).symm, rfl⟩
  · refine x_iconst (v := 0) C dX12_hasBit_9 ?_
    refine x_goto C 14 (by decide) dX12_hasBit_10 ?_
    exact hret _ _ _ _ dX12_hasBit_14 (nar_z (by decide)) ⟨(bz_t (by omega)).symm, rfl⟩
theorem ok_X12_isCell : okY yX12_isCell 1 := by decide +kernel
def rmX12_isCell : Room := { frames := 1, cells := 0, slots := 0, locals := 25 }
set_option maxRecDepth 100000 in
set_option maxHeartbeats 400000 in
theorem c_X12_isCell (l : Launch) (γ : GX) (w0 : va_W) (cell : Int) (h0_ : -2147483648 ≤ cell ∧ cell < 2147483648) : MI l γ yX12_isCell wsX12_isCell rmX12_isCell [.int (iN (cell))] w0 (fun r_ w_ => r_ = bz (0 ≤ cell ∧ cell ≤ 14) ∧ w_ = w0) 0 0 := by
  refine MI.of (cc := cX12_isCell) (maxL := 1) (rt := .boolean) RX12 rfl (by decide +kernel) rfl (Nat.le_of_ble_eq_true rfl) ?_
  intro X C hγ hl hnm hret
  subst hγ
  show Wx X 0 0 w0 0 [(0, .int (iN (cell)))] []
  refine x_iload_n C 0 rfl rfl dX12_isCell_0 ?_
  refine x_i2l C (by omega) dX12_isCell_1 ?_
  refine x_lconst C 0 rfl dX12_isCell_2 ?_
  refine x_ldc2 C (14) (List.mem_of_getElem? (i := 1) rfl) (by decide) dX12_isCell_3 ?_
  refine x_S_I C (As := [.long (jN (cell)), .long (jN (0)), .long (jN (14))]) (rest := []) 3 gX12_isCell_X12_in (c_X12_in _ _ w0 (cell) (0) (14) (by omega) (by omega) (by omega)) rfl ok_X12_in rfl rfl rfl rfl dX12_isCell_6 (fun r w1 hp => ?_)
  obtain ⟨rfl, rfl⟩ := hp
  exact hret _ _ _ _ dX12_isCell_9 (nar_z (bz_01 _)) ⟨bz_iff (by omega), rfl⟩
theorem ok_X12_above : okY yX12_above 1 := by decide +kernel
def rmX12_above : Room := { frames := 0, cells := 0, slots := 0, locals := 0 }
set_option maxRecDepth 100000 in
set_option maxHeartbeats 400000 in
theorem c_X12_above (l : Launch) (γ : GX) (w0 : va_W) (v : Int) (h0_ : -2147483648 ≤ v ∧ v < 2147483648) : MI l γ yX12_above wsX12_above rmX12_above [.int (iN (v))] w0 (fun r_ w_ => r_ = (if v < 0 then 0 else v) ∧ w_ = w0) 0 0 := by
  refine MI.of (cc := cX12_above) (maxL := 1) (rt := .int) RX12 rfl (by decide +kernel) rfl (Nat.le_of_ble_eq_true rfl) ?_
  intro X C hγ hl hnm hret
  subst hγ
  show Wx X 0 0 w0 0 [(0, .int (iN (v)))] []
  refine x_iload_n C 0 rfl rfl dX12_above_0 ?_
  refine x_if_ge C 8 (by decide) (by omega) dX12_above_1 (fun c_1 => ?_) (fun c_1 => ?_)
  · refine x_iload_n C 0 rfl rfl dX12_above_8 ?_
    exact hret _ _ _ _ dX12_above_9 rfl ⟨(by omega), rfl⟩
  · refine x_iconst (v := 0) C dX12_above_4 ?_
    refine x_goto C 9 (by decide) dX12_above_5 ?_
    exact hret _ _ _ _ dX12_above_9 rfl ⟨(by omega), rfl⟩
theorem ok_X12_plainly : okY yX12_plainly 1 := by decide +kernel
def rmX12_plainly : Room := { frames := 0, cells := 0, slots := 0, locals := 0 }
set_option maxRecDepth 100000 in
set_option maxHeartbeats 400000 in
theorem c_X12_plainly (l : Launch) (γ : GX) (w0 : va_W) (v : Int) (h0_ : -2147483648 < v ∧ v < 2147483648) : MI l γ yX12_plainly wsX12_plainly rmX12_plainly [.int (iN (v))] w0 (fun r_ w_ => r_ = (if v < 0 then - v else v) ∧ w_ = w0) 0 0 := by
  refine MI.of (cc := cX12_plainly) (maxL := 1) (rt := .int) RX12 rfl (by decide +kernel) rfl (Nat.le_of_ble_eq_true rfl) ?_
  intro X C hγ hl hnm hret
  subst hγ
  show Wx X 0 0 w0 0 [(0, .int (iN (v)))] []
  refine x_iload_n C 0 rfl rfl dX12_plainly_0 ?_
  refine x_if_ge C 9 (by decide) (by omega) dX12_plainly_1 (fun c_1 => ?_) (fun c_1 => ?_)
  · refine x_iload_n C 0 rfl rfl dX12_plainly_9 ?_
    exact hret _ _ _ _ dX12_plainly_10 rfl ⟨(by omega), rfl⟩
  · refine x_iload_n C 0 rfl rfl dX12_plainly_4 ?_
    refine x_ineg C dX12_plainly_5 ?_
    refine x_goto C 10 (by decide) dX12_plainly_6 ?_
    exact hret _ _ _ _ dX12_plainly_10 rfl ⟨(by omega), rfl⟩
theorem ok_X12_isLetter : okY yX12_isLetter 1 := by decide +kernel
def rmX12_isLetter : Room := { frames := 0, cells := 0, slots := 0, locals := 0 }
set_option maxRecDepth 100000 in
set_option maxHeartbeats 400000 in
theorem c_X12_isLetter (l : Launch) (γ : GX) (w0 : va_W) (c : Int) (h0_ : -2147483648 ≤ c ∧ c < 2147483648) : MI l γ yX12_isLetter wsX12_isLetter rmX12_isLetter [.int (iN (c))] w0 (fun r_ w_ => r_ = bz (0 ≤ dgz c) ∧ w_ = w0) 0 0 := by
  refine MI.of (cc := cX12_isLetter) (maxL := 1) (rt := .boolean) RX12 rfl (by decide +kernel) rfl (Nat.le_of_ble_eq_true rfl) ?_
  intro X C hγ hl hnm hret
  subst hγ
  show Wx X 0 0 w0 0 [(0, .int (iN (c)))] []
  refine x_iload_n C 0 rfl rfl dX12_isLetter_0 ?_
  refine x_bipush C (103) (by decide) dX12_isLetter_1 ?_
  refine x_icmp_eq C 30 (by decide) (by omega) dX12_isLetter_3 (fun c_3 => ?_) (fun c_3 => ?_)
  · refine x_iconst (v := 0) C dX12_isLetter_30 ?_
    refine x_goto C 35 (by decide) dX12_isLetter_31 ?_
    exact hret _ _ _ _ dX12_isLetter_35 (nar_z (by decide)) ⟨(bz_t (by unfold dgz; omega)).symm, rfl⟩
  · refine x_iload_n C 0 rfl rfl dX12_isLetter_6 ?_
    refine x_bipush C (119) (by decide) dX12_isLetter_7 ?_
    refine x_icmp_eq C 30 (by decide) (by omega) dX12_isLetter_9 (fun c_9 => ?_) (fun c_9 => ?_)
    · refine x_iconst (v := 0) C dX12_isLetter_30 ?_
      refine x_goto C 35 (by decide) dX12_isLetter_31 ?_
      exact hret _ _ _ _ dX12_isLetter_35 (nar_z (by decide)) ⟨(bz_t (by unfold dgz; omega)).symm, rfl⟩
    · refine x_iload_n C 0 rfl rfl dX12_isLetter_12 ?_
      refine x_bipush C (109) (by decide) dX12_isLetter_13 ?_
      refine x_icmp_eq C 30 (by decide) (by omega) dX12_isLetter_15 (fun c_15 => ?_) (fun c_15 => ?_)
      · refine x_iconst (v := 0) C dX12_isLetter_30 ?_
        refine x_goto C 35 (by decide) dX12_isLetter_31 ?_
        exact hret _ _ _ _ dX12_isLetter_35 (nar_z (by decide)) ⟨(bz_t (by unfold dgz; omega)).symm, rfl⟩
      · refine x_iload_n C 0 rfl rfl dX12_isLetter_18 ?_
        refine x_bipush C (121) (by decide) dX12_isLetter_19 ?_
        refine x_icmp_eq C 30 (by decide) (by omega) dX12_isLetter_21 (fun c_21 => ?_) (fun c_21 => ?_)
        · refine x_iconst (v := 0) C dX12_isLetter_30 ?_
          refine x_goto C 35 (by decide) dX12_isLetter_31 ?_
          exact hret _ _ _ _ dX12_isLetter_35 (nar_z (by decide)) ⟨(bz_t (by unfold dgz; omega)).symm, rfl⟩
        · refine x_iload_n C 0 rfl rfl dX12_isLetter_24 ?_
          refine x_bipush C (100) (by decide) dX12_isLetter_25 ?_
          refine x_icmp_ne C 34 (by decide) (by omega) dX12_isLetter_27 (fun c_27 => ?_) (fun c_27 => ?_)
          · refine x_iconst (v := 0) C dX12_isLetter_34 ?_
            exact hret _ _ _ _ dX12_isLetter_35 (nar_z (by decide)) ⟨(bz_f (by unfold dgz; omega)).symm, rfl⟩
          · refine x_iconst (v := 0) C dX12_isLetter_30 ?_
            refine x_goto C 35 (by decide) dX12_isLetter_31 ?_
            exact hret _ _ _ _ dX12_isLetter_35 (nar_z (by decide)) ⟨(bz_t (by unfold dgz; omega)).symm, rfl⟩
theorem ok_X12_wayOf : okY yX12_wayOf 1 := by decide +kernel
def rmX12_wayOf : Room := { frames := 0, cells := 0, slots := 0, locals := 0 }
set_option maxRecDepth 100000 in
set_option maxHeartbeats 400000 in
theorem c_X12_wayOf (l : Launch) (γ : GX) (w0 : va_W) (t : Int) (h0_ : -2147483648 ≤ t ∧ t < 2147483648) : MI l γ yX12_wayOf wsX12_wayOf rmX12_wayOf [.int (iN (t))] w0 (fun r_ w_ => r_ = (if t = 0 then 0 else if t = 1 then -1 else 1) ∧ w_ = w0) 0 0 := by
  refine MI.of (cc := cX12_wayOf) (maxL := 1) (rt := .int) RX12 rfl (by decide +kernel) rfl (Nat.le_of_ble_eq_true rfl) ?_
  intro X C hγ hl hnm hret
  subst hγ
  show Wx X 0 0 w0 0 [(0, .int (iN (t)))] []
  refine x_iload_n C 0 rfl rfl dX12_wayOf_0 ?_
  refine x_if_ne C 8 (by decide) (by omega) dX12_wayOf_1 (fun c_1 => ?_) (fun c_1 => ?_)
  · refine x_iload_n C 0 rfl rfl dX12_wayOf_8 ?_
    refine x_iconst (v := 0) C dX12_wayOf_9 ?_
    refine x_icmp_ne C 17 (by decide) (by omega) dX12_wayOf_10 (fun c_10 => ?_) (fun c_10 => ?_)
    · refine x_iconst (v := 0) C dX12_wayOf_17 ?_
      exact hret _ _ _ _ dX12_wayOf_18 rfl ⟨(by omega), rfl⟩
    · refine x_iconst (v := 0) C dX12_wayOf_13 ?_
      refine x_goto C 18 (by decide) dX12_wayOf_14 ?_
      exact hret _ _ _ _ dX12_wayOf_18 rfl ⟨(by omega), rfl⟩
  · refine x_iconst (v := 0) C dX12_wayOf_4 ?_
    refine x_goto C 18 (by decide) dX12_wayOf_5 ?_
    exact hret _ _ _ _ dX12_wayOf_18 rfl ⟨(by omega), rfl⟩
theorem ok_X12_onesOf : okY yX12_onesOf 1 := by decide +kernel
def rmX12_onesOf : Room := { frames := 0, cells := 0, slots := 0, locals := 0 }
set_option maxRecDepth 100000 in
set_option maxHeartbeats 400000 in
theorem c_X12_onesOf (l : Launch) (γ : GX) (w0 : va_W) (bits : Int) (h0_ : 0 ≤ bits ∧ bits < 64) : MI l γ yX12_onesOf wsX12_onesOf rmX12_onesOf [.int (iN (bits))] w0 (fun r_ w_ => r_ = ((pc6 bits.toNat : Int)) ∧ w_ = w0) 0 0 := by
  refine MI.of (cc := cX12_onesOf) (maxL := 3) (rt := .int) RX12 rfl (by decide +kernel) rfl (Nat.le_of_ble_eq_true rfl) ?_
  intro X C hγ hl hnm hret
  subst hγ
  show Wx X 0 0 w0 0 [(0, .int (iN (bits)))] []
  refine x_iconst (v := 0) C dX12_onesOf_0 ?_
  refine x_istore_n C [(1, .int (iN (0))), (0, .int (iN (bits)))] rfl (by decide) rfl dX12_onesOf_1 ?_
  refine x_iload_n C 1 rfl rfl dX12_onesOf_2 ?_
  refine x_istore_n C [(2, .int (iN (bits))), (1, .int (iN (0))), (0, .int (iN (bits)))] rfl (by decide) rfl dX12_onesOf_3 ?_
  have LP4 : ∀ (f : Nat) (r : Nat) (v2_4 : Int) (v1_4 : Int), (r < f) → (r < 64) → (((r : Int)) = v2_4) → (v1_4 = ((pc6 bits.toNat : Int) - (pc6 r : Int))) → Wx X 0 0 w0 4 [(2, .int (iN (v2_4))), (1, .int (iN (v1_4))), (0, .int (iN (bits)))] [] := by
    intro f
    induction f with
    | zero => intro r v2_4 v1_4 hf; exact absurd hf (Nat.not_lt_zero _)
    | succ f ih4 =>
      intro r v2_4 v1_4 hf hr2 e2_4 e1_4
      subst e2_4
      refine x_iload_n C 0 rfl rfl dX12_onesOf_4 ?_
      refine x_if_eq C 20 (by decide) (by have hp6 : pc6 r ≤ 6 := (by unfold pc6; omega); have hp7 : pc6 bits.toNat ≤ 6 := (by unfold pc6; omega); omega) dX12_onesOf_5 (fun c_5 => ?_) (fun c_5 => ?_)
      · refine x_iload_n C 1 rfl rfl dX12_onesOf_20 ?_
        exact hret _ _ _ _ dX12_onesOf_21 rfl ⟨(by have hz : r = 0 := (by omega); subst hz; rw [e1_4]; simp [pc6]), rfl⟩
      · refine x_iinc C 1 [(1, .int (iN (v1_4 + 1))), (2, .int (iN ((r : Int)))), (0, .int (iN (bits)))] rfl rfl (by decide) rfl dX12_onesOf_8 ?_
        refine x_iload_n C 1 rfl rfl dX12_onesOf_11 ?_
        refine x_iload_n C 1 rfl rfl dX12_onesOf_12 ?_
        refine x_iconst (v := 0) C dX12_onesOf_13 ?_
        refine x_isub C dX12_onesOf_14 ?_
        have hst := pc6_step r hr2 (by omega)
        refine x_iand C (((r &&& (r - 1) : Nat) : Int)) (by rw [show ((r : Int) - 1) = ((r - 1 : Nat) : Int) by omega]; exact iN_andN (by omega) (by omega)) dX12_onesOf_15 ?_
        refine x_istore_n C [(2, .int (iN (((r &&& (r - 1) : Nat) : Int)))), (1, .int (iN (v1_4 + 1))), (0, .int (iN (bits)))] rfl (by decide) rfl dX12_onesOf_16 ?_
        refine x_goto C 4 (by decide) dX12_onesOf_17 ?_
        exact ih4 (r &&& (r - 1)) _ _ (by omega) (by omega) (by omega) (by omega)
  exact LP4 (((bits.toNat)) + 1) (bits.toNat) _ _ (by omega) (by omega) (by omega) (by omega)
theorem ok_X12_costOf : okY yX12_costOf 2 := by decide +kernel
def rmX12_costOf : Room := { frames := 0, cells := 0, slots := 0, locals := 0 }
set_option maxRecDepth 100000 in
set_option maxHeartbeats 400000 in
theorem c_X12_costOf (l : Launch) (γ : GX) (w0 : va_W) (k : Int) (fg : Int) (h0_ : 0 ≤ k ∧ k ≤ 7) (h1_ : 0 ≤ fg ∧ fg ≤ 9) : MI l γ yX12_costOf wsX12_costOf rmX12_costOf [.int (iN (k)), .int (iN (fg))] w0 (fun r_ w_ => r_ = (coF k fg) ∧ w_ = w0) 0 0 := by
  refine MI.of (cc := cX12_costOf) (maxL := 2) (rt := .int) RX12 rfl (by decide +kernel) rfl (Nat.le_of_ble_eq_true rfl) ?_
  intro X C hγ hl hnm hret
  subst hγ
  show Wx X 0 0 w0 0 [(0, .int (iN (k))), (1, .int (iN (fg)))] []
  refine x_iload_n C 0 rfl rfl dX12_costOf_0 ?_
  rcases (show k = 1 ∨ k = 2 ∨ k = 3 ∨ k = 4 ∨ k = 5 ∨ k = 6 ∨ k = 7 ∨ (k < 1 ∨ 7 < k) by omega) with s_1 | s_1 | s_1 | s_1 | s_1 | s_1 | s_1 | s_1
  · refine x_tabIn C 44 (43) (by omega) (by omega) (by omega) (by rw [s_1]; rfl) (by decide) dX12_costOf_1 ?_
    refine x_iconst (v := 0) C dX12_costOf_44 ?_
    refine x_iload_n C 1 rfl rfl dX12_costOf_45 ?_
    refine x_iadd C dX12_costOf_46 ?_
    exact hret _ _ _ _ dX12_costOf_47 rfl ⟨(by unfold coF; omega), rfl⟩
  · refine x_tabIn C 48 (47) (by omega) (by omega) (by omega) (by rw [s_1]; rfl) (by decide) dX12_costOf_1 ?_
    refine x_iconst (v := 0) C dX12_costOf_48 ?_
    exact hret _ _ _ _ dX12_costOf_49 rfl ⟨(by unfold coF; omega), rfl⟩
  · refine x_tabIn C 50 (49) (by omega) (by omega) (by omega) (by rw [s_1]; rfl) (by decide) dX12_costOf_1 ?_
    refine x_iconst (v := 0) C dX12_costOf_50 ?_
    exact hret _ _ _ _ dX12_costOf_51 rfl ⟨(by unfold coF; omega), rfl⟩
  · refine x_tabIn C 52 (51) (by omega) (by omega) (by omega) (by rw [s_1]; rfl) (by decide) dX12_costOf_1 ?_
    refine x_bipush C (9) (by decide) dX12_costOf_52 ?_
    exact hret _ _ _ _ dX12_costOf_54 rfl ⟨(by unfold coF; omega), rfl⟩
  · refine x_tabIn C 55 (54) (by omega) (by omega) (by omega) (by rw [s_1]; rfl) (by decide) dX12_costOf_1 ?_
    refine x_iconst (v := 0) C dX12_costOf_55 ?_
    refine x_iconst (v := 0) C dX12_costOf_56 ?_
    refine x_iload_n C 1 rfl rfl dX12_costOf_57 ?_
    refine x_iadd C dX12_costOf_58 ?_
    refine x_imul C dX12_costOf_59 ?_
    exact hret _ _ _ _ dX12_costOf_60 rfl ⟨(by unfold coF; omega), rfl⟩
  · refine x_tabIn C 48 (47) (by omega) (by omega) (by omega) (by rw [s_1]; rfl) (by decide) dX12_costOf_1 ?_
    refine x_iconst (v := 0) C dX12_costOf_48 ?_
    exact hret _ _ _ _ dX12_costOf_49 rfl ⟨(by unfold coF; omega), rfl⟩
  · refine x_tabIn C 44 (43) (by omega) (by omega) (by omega) (by rw [s_1]; rfl) (by decide) dX12_costOf_1 ?_
    refine x_iconst (v := 0) C dX12_costOf_44 ?_
    refine x_iload_n C 1 rfl rfl dX12_costOf_45 ?_
    refine x_iadd C dX12_costOf_46 ?_
    exact hret _ _ _ _ dX12_costOf_47 rfl ⟨(by unfold coF; omega), rfl⟩
  · refine x_tabOut C 61 (by omega) s_1 (by decide) dX12_costOf_1 ?_
    refine x_iconst (v := 0) C dX12_costOf_61 ?_
    exact hret _ _ _ _ dX12_costOf_62 rfl ⟨(by unfold coF; omega), rfl⟩
theorem in_X12_isOne_X12 : ∀ w ∈ u_ws RX12 TX12 34, w ∈ wsX12_isOne := by decide +kernel
theorem ok_X12_isOne : okY yX12_isOne 1 := by decide +kernel
def rmX12_isOne : Room := { frames := 1, cells := 0, slots := 0, locals := 25 }
set_option maxRecDepth 100000 in
set_option maxHeartbeats 400000 in
theorem c_X12_isOne (l : Launch) (γ : GX) (a : Nat → Nat) (mh : Int → Int) (mn : Int) (mkd : Int → Int) (mfg : Int → Int) (mag : Int → Int) (mpo : Int → Int) (mwy : Int → Int) (mdy : Int) (mhw : Int → Int) (mkk : Int → Int) (mkf : Int → Int) (mrs : Int → Int) (mrm : Int → Int) (mrw : Int → Int) (mth : Int) (maw : Int) (mgr : Int → Int) (mwa : Int → Int) (mre : Int) (mpl : Int) (mib : Int) (msn : Int) (mpn : Int → Int) (mlo : Int → Int) (mtl : Int → Int) (mke : Int → Int) (mim : Int → Int) (mhi : Int) (mp0 : Int) (mtk : Int) (mki : Value) (mun : Int → Int) (msd : Int) (mbe : Int → Int) (hM : WFm mn mh mkd mfg mag mpo mwy mhw mkk mkf mrs mrm mrw) (i : Int) (h0_ : -2147483648 ≤ i ∧ i < 2147483648) : MI l γ yX12_isOne wsX12_isOne rmX12_isOne [.ref (a 0), .int (iN (i))] (WM γ a mh mn mkd mfg mag mpo mwy mdy mhw mkk mkf mrs mrm mrw mth maw mgr mwa mre mpl mib msn mpn mlo mtl mke mim mhi mp0 mtk mki mun msd mbe) (fun r_ w_ => r_ = (bz (0 ≤ i ∧ i ≤ mn - 1)) ∧ w_ = (WM γ a mh mn mkd mfg mag mpo mwy mdy mhw mkk mkf mrs mrm mrw mth maw mgr mwa mre mpl mib msn mpn mlo mtl mke mim mhi mp0 mtk mki mun msd mbe)) 0 0 := by
  refine MI.of (cc := cX12_isOne) (maxL := 2) (rt := .boolean) RX12 rfl (by decide +kernel) rfl (Nat.le_of_ble_eq_true rfl) ?_
  intro X C hγ hl hnm hret
  subst hγ
  have hMn := WFm.n hM
  show Wx X 0 0 (WM X.γ a mh mn mkd mfg mag mpo mwy mdy mhw mkk mkf mrs mrm mrw mth maw mgr mwa mre mpl mib msn mpn mlo mtl mke mim mhi mp0 mtk mki mun msd mbe) 0 [(0, .ref (a 0)), (1, .int (iN (i)))] []
  refine x_iload_n C 1 rfl rfl dX12_isOne_0 ?_
  refine x_i2l C (by omega) dX12_isOne_1 ?_
  refine x_lconst C 0 rfl dX12_isOne_2 ?_
  refine x_aload_n C 0 rfl rfl dX12_isOne_3 ?_
  refine x_get C in_X12_isOne_X12 0 rfl rfl 1 (by decide) (List.mem_of_getElem? (i := 1) rfl) rfl (v := .int (iN (mn))) rfl dX12_isOne_4 ?_
  refine x_iconst (v := 0) C dX12_isOne_7 ?_
  refine x_isub C dX12_isOne_8 ?_
  refine x_i2l C (by omega) dX12_isOne_9 ?_
  refine x_S_I C (As := [.long (jN (i)), .long (jN (0)), .long (jN (mn - 1))]) (rest := []) 3 gX12_isOne_X12_in (c_X12_in _ _ (WM X.γ a mh mn mkd mfg mag mpo mwy mdy mhw mkk mkf mrs mrm mrw mth maw mgr mwa mre mpl mib msn mpn mlo mtl mke mim mhi mp0 mtk mki mun msd mbe) (i) (0) (mn - 1) (by omega) (by omega) (by omega)) rfl ok_X12_in rfl rfl rfl rfl dX12_isOne_10 (fun r w1 hp => ?_)
  obtain ⟨rfl, rfl⟩ := hp
  exact hret _ _ _ _ dX12_isOne_13 (nar_z (bz_01 _)) ⟨bz_iff (by omega), rfl⟩
theorem in_X12_pressesOf_X12 : ∀ w ∈ u_ws RX12 TX12 34, w ∈ wsX12_pressesOf := by decide +kernel
theorem ok_X12_pressesOf : okY yX12_pressesOf 1 := by decide +kernel
def rmX12_pressesOf : Room := { frames := 1, cells := 0, slots := 0, locals := 20 }
set_option maxRecDepth 100000 in
set_option maxHeartbeats 400000 in
theorem c_X12_pressesOf (l : Launch) (γ : GX) (a : Nat → Nat) (mh : Int → Int) (mn : Int) (mkd : Int → Int) (mfg : Int → Int) (mag : Int → Int) (mpo : Int → Int) (mwy : Int → Int) (mdy : Int) (mhw : Int → Int) (mkk : Int → Int) (mkf : Int → Int) (mrs : Int → Int) (mrm : Int → Int) (mrw : Int → Int) (mth : Int) (maw : Int) (mgr : Int → Int) (mwa : Int → Int) (mre : Int) (mpl : Int) (mib : Int) (msn : Int) (mpn : Int → Int) (mlo : Int → Int) (mtl : Int → Int) (mke : Int → Int) (mim : Int → Int) (mhi : Int) (mp0 : Int) (mtk : Int) (mki : Value) (mun : Int → Int) (msd : Int) (mbe : Int → Int) (hM : WFm mn mh mkd mfg mag mpo mwy mhw mkk mkf mrs mrm mrw) (i : Int) (h0_ : 0 ≤ i ∧ i < 6) : MI l γ yX12_pressesOf wsX12_pressesOf rmX12_pressesOf [.ref (a 0), .int (iN (i))] (WM γ a mh mn mkd mfg mag mpo mwy mdy mhw mkk mkf mrs mrm mrw mth maw mgr mwa mre mpl mib msn mpn mlo mtl mke mim mhi mp0 mtk mki mun msd mbe) (fun r_ w_ => r_ = (prL mkd mfg mag i) ∧ w_ = (WM γ a mh mn mkd mfg mag mpo mwy mdy mhw mkk mkf mrs mrm mrw mth maw mgr mwa mre mpl mib msn mpn mlo mtl mke mim mhi mp0 mtk mki mun msd mbe)) 0 0 := by
  refine MI.of (cc := cX12_pressesOf) (maxL := 4) (rt := .int) RX12 rfl (by decide +kernel) rfl (Nat.le_of_ble_eq_true rfl) ?_
  intro X C hγ hl hnm hret
  subst hγ
  have hMn := WFm.n hM
  show Wx X 0 0 (WM X.γ a mh mn mkd mfg mag mpo mwy mdy mhw mkk mkf mrs mrm mrw mth maw mgr mwa mre mpl mib msn mpn mlo mtl mke mim mhi mp0 mtk mki mun msd mbe) 0 [(0, .ref (a 0)), (1, .int (iN (i)))] []
  refine x_aload_n C 0 rfl rfl dX12_pressesOf_0 ?_
  refine x_get C in_X12_pressesOf_X12 0 rfl rfl 4 (by decide) (List.mem_of_getElem? (i := 1) rfl) rfl (v := .ref (a 4)) rfl dX12_pressesOf_1 ?_
  refine x_iload_n C 1 rfl rfl dX12_pressesOf_4 ?_
  refine x_iaload C (f := mag) 4 rfl (by omega) rfl dX12_pressesOf_5 ?_
  have b1 := WFm.ag hM (i)
  refine x_bipush C (60) (by decide) dX12_pressesOf_6 ?_
  refine x_isub C dX12_pressesOf_8 ?_
  refine x_S_I C (As := [.int (iN ((mag i) - 60))]) (rest := []) 1 gX12_pressesOf_X12_above (c_X12_above _ _ (WM X.γ a mh mn mkd mfg mag mpo mwy mdy mhw mkk mkf mrs mrm mrw mth maw mgr mwa mre mpl mib msn mpn mlo mtl mke mim mhi mp0 mtk mki mun msd mbe) ((mag i) - 60) (by omega)) rfl ok_X12_above rfl rfl rfl rfl dX12_pressesOf_9 (fun r w1 hp => ?_)
  obtain ⟨rfl, rfl⟩ := hp
  refine x_bipush C (10) (by decide) dX12_pressesOf_12 ?_
  refine x_idiv C (by omega) dX12_pressesOf_14 ?_
  refine x_istore_n C [(2, .int (iN ((if ((mag i) - 60) < 0 then 0 else ((mag i) - 60)) / 10))), (0, .ref (a 0)), (1, .int (iN (i)))] rfl (by decide) rfl dX12_pressesOf_15 ?_
  refine x_iload_n C 0 rfl rfl dX12_pressesOf_16 ?_
  refine x_aload_n C 1 rfl rfl dX12_pressesOf_17 ?_
  refine x_get C in_X12_pressesOf_X12 0 rfl rfl 4 (by decide) (List.mem_of_getElem? (i := 1) rfl) rfl (v := .ref (a 4)) rfl dX12_pressesOf_18 ?_
  refine x_iload_n C 2 rfl rfl dX12_pressesOf_21 ?_
  refine x_iaload C (f := mag) 4 rfl (by omega) rfl dX12_pressesOf_22 ?_
  have b2 := WFm.ag hM (i)
  refine x_bipush C (60) (by decide) dX12_pressesOf_23 ?_
  have LP33 : ∀ (s0_33 : Int), (s0_33 = (if 60 ≤ mag i then 2 else 0)) → Wx X 0 0 (WM X.γ a mh mn mkd mfg mag mpo mwy mdy mhw mkk mkf mrs mrm mrw mth maw mgr mwa mre mpl mib msn mpn mlo mtl mke mim mhi mp0 mtk mki mun msd mbe) 33 [(2, .int (iN ((if ((mag i) - 60) < 0 then 0 else ((mag i) - 60)) / 10))), (0, .ref (a 0)), (1, .int (iN (i)))] [.int (iN (s0_33)), .int (iN ((if ((mag i) - 60) < 0 then 0 else ((mag i) - 60)) / 10))] := by
    intro s0_33 es0_33
    refine x_iadd C dX12_pressesOf_33 ?_
    refine x_istore_n C [(3, .int (iN (((if ((mag i) - 60) < 0 then 0 else ((mag i) - 60)) / 10) + s0_33))), (2, .int (iN ((if ((mag i) - 60) < 0 then 0 else ((mag i) - 60)) / 10))), (0, .ref (a 0)), (1, .int (iN (i)))] rfl (by decide) rfl dX12_pressesOf_34 ?_
    refine x_aload_n C 2 rfl rfl dX12_pressesOf_35 ?_
    refine x_get C in_X12_pressesOf_X12 0 rfl rfl 2 (by decide) (List.mem_of_getElem? (i := 2) rfl) rfl (v := .ref (a 2)) rfl dX12_pressesOf_36 ?_
    refine x_iload_n C 3 rfl rfl dX12_pressesOf_39 ?_
    refine x_iaload C (f := mkd) 2 rfl (by omega) rfl dX12_pressesOf_40 ?_
    have b3 := WFm.kd hM (i)
    rcases (show (mkd i) = 1 ∨ (mkd i) = 2 ∨ (mkd i) = 3 ∨ (mkd i) = 4 ∨ (mkd i) = 5 ∨ (mkd i) = 6 ∨ (mkd i) = 7 ∨ ((mkd i) < 1 ∨ 7 < (mkd i)) by omega) with s_41 | s_41 | s_41 | s_41 | s_41 | s_41 | s_41 | s_41
    · refine x_tabIn C 84 (43) (by omega) (by omega) (by omega) (by rw [s_41]; rfl) (by decide) dX12_pressesOf_41 ?_
      refine x_iload_n C 1 rfl rfl dX12_pressesOf_84 ?_
      refine x_iconst (v := 0) C dX12_pressesOf_85 ?_
      refine x_isub C dX12_pressesOf_86 ?_
      refine x_S_I C (As := [.int (iN (((if ((mag i) - 60) < 0 then 0 else ((mag i) - 60)) / 10) - 1))]) (rest := []) 1 gX12_pressesOf_X12_above (c_X12_above _ _ (WM X.γ a mh mn mkd mfg mag mpo mwy mdy mhw mkk mkf mrs mrm mrw mth maw mgr mwa mre mpl mib msn mpn mlo mtl mke mim mhi mp0 mtk mki mun msd mbe) (((if ((mag i) - 60) < 0 then 0 else ((mag i) - 60)) / 10) - 1) (by omega)) rfl ok_X12_above rfl rfl rfl rfl dX12_pressesOf_87 (fun r w1 hp => ?_)
      obtain ⟨rfl, rfl⟩ := hp
      exact hret _ _ _ _ dX12_pressesOf_90 rfl ⟨(by simp only [prL]; unfold prF prR prS prW; omega), rfl⟩
    · refine x_tabIn C 119 (78) (by omega) (by omega) (by omega) (by rw [s_41]; rfl) (by decide) dX12_pressesOf_41 ?_
      refine x_iload_n C 1 rfl rfl dX12_pressesOf_119 ?_
      exact hret _ _ _ _ dX12_pressesOf_120 rfl ⟨(by simp only [prL]; unfold prF prR prS prW; omega), rfl⟩
    · refine x_tabIn C 91 (50) (by omega) (by omega) (by omega) (by rw [s_41]; rfl) (by decide) dX12_pressesOf_41 ?_
      refine x_iload_n C 0 rfl rfl dX12_pressesOf_91 ?_
      exact hret _ _ _ _ dX12_pressesOf_92 rfl ⟨(by simp only [prL]; unfold prF prR prS prW; omega), rfl⟩
    · refine x_tabIn C 93 (52) (by omega) (by omega) (by omega) (by rw [s_41]; rfl) (by decide) dX12_pressesOf_41 ?_
      refine x_iconst (v := 0) C dX12_pressesOf_93 ?_
      refine x_iload_n C 0 rfl rfl dX12_pressesOf_94 ?_
      refine x_imul C dX12_pressesOf_95 ?_
      exact hret _ _ _ _ dX12_pressesOf_96 rfl ⟨(by simp only [prL]; unfold prF prR prS prW; omega), rfl⟩
    · refine x_tabIn C 97 (56) (by omega) (by omega) (by omega) (by rw [s_41]; rfl) (by decide) dX12_pressesOf_41 ?_
      refine x_iload_n C 1 rfl rfl dX12_pressesOf_97 ?_
      refine x_iconst (v := 0) C dX12_pressesOf_98 ?_
      refine x_isub C dX12_pressesOf_99 ?_
      refine x_S_I C (As := [.int (iN (((if ((mag i) - 60) < 0 then 0 else ((mag i) - 60)) / 10) - 1))]) (rest := []) 1 gX12_pressesOf_X12_above (c_X12_above _ _ (WM X.γ a mh mn mkd mfg mag mpo mwy mdy mhw mkk mkf mrs mrm mrw mth maw mgr mwa mre mpl mib msn mpn mlo mtl mke mim mhi mp0 mtk mki mun msd mbe) (((if ((mag i) - 60) < 0 then 0 else ((mag i) - 60)) / 10) - 1) (by omega)) rfl ok_X12_above rfl rfl rfl rfl dX12_pressesOf_100 (fun r w1 hp => ?_)
      obtain ⟨rfl, rfl⟩ := hp
      refine x_aload_n C 2 rfl rfl dX12_pressesOf_103 ?_
      refine x_get C in_X12_pressesOf_X12 0 rfl rfl 3 (by decide) (List.mem_of_getElem? (i := 3) rfl) rfl (v := .ref (a 3)) rfl dX12_pressesOf_104 ?_
      refine x_iload_n C 3 rfl rfl dX12_pressesOf_107 ?_
      refine x_iaload C (f := mfg) 3 rfl (by omega) rfl dX12_pressesOf_108 ?_
      have b4 := WFm.fg hM (i)
      refine x_iconst (v := 0) C dX12_pressesOf_109 ?_
      refine x_idiv C (by omega) dX12_pressesOf_110 ?_
      refine x_iadd C dX12_pressesOf_111 ?_
      exact hret _ _ _ _ dX12_pressesOf_112 rfl ⟨(by simp only [prL]; unfold prF prR prS prW; omega), rfl⟩
    · refine x_tabIn C 113 (72) (by omega) (by omega) (by omega) (by rw [s_41]; rfl) (by decide) dX12_pressesOf_41 ?_
      refine x_iload_n C 1 rfl rfl dX12_pressesOf_113 ?_
      refine x_iconst (v := 0) C dX12_pressesOf_114 ?_
      refine x_iadd C dX12_pressesOf_115 ?_
      exact hret _ _ _ _ dX12_pressesOf_116 rfl ⟨(by simp only [prL]; unfold prF prR prS prW; omega), rfl⟩
    · refine x_tabIn C 117 (76) (by omega) (by omega) (by omega) (by rw [s_41]; rfl) (by decide) dX12_pressesOf_41 ?_
      refine x_iconst (v := 0) C dX12_pressesOf_117 ?_
      exact hret _ _ _ _ dX12_pressesOf_118 rfl ⟨(by simp only [prL]; unfold prF prR prS prW; omega), rfl⟩
    · refine x_tabOut C 119 (by omega) s_41 (by decide) dX12_pressesOf_41 ?_
      refine x_iload_n C 1 rfl rfl dX12_pressesOf_119 ?_
      exact hret _ _ _ _ dX12_pressesOf_120 rfl ⟨(by simp only [prL]; unfold prF prR prS prW; omega), rfl⟩
  refine x_icmp_lt C 32 (by decide) (by omega) dX12_pressesOf_25 (fun c_25 => ?_) (fun c_25 => ?_)
  · refine x_iconst (v := 0) C dX12_pressesOf_32 ?_
    exact LP33 _ (by omega)
  · refine x_iconst (v := 0) C dX12_pressesOf_28 ?_
    refine x_goto C 33 (by decide) dX12_pressesOf_29 ?_
    exact LP33 _ (by omega)
theorem in_X12_spreadsOf_X12 : ∀ w ∈ u_ws RX12 TX12 34, w ∈ wsX12_spreadsOf := by decide +kernel
theorem ok_X12_spreadsOf : okY yX12_spreadsOf 1 := by decide +kernel
def rmX12_spreadsOf : Room := { frames := 0, cells := 0, slots := 0, locals := 0 }
set_option maxRecDepth 100000 in
set_option maxHeartbeats 400000 in
theorem c_X12_spreadsOf (l : Launch) (γ : GX) (a : Nat → Nat) (mh : Int → Int) (mn : Int) (mkd : Int → Int) (mfg : Int → Int) (mag : Int → Int) (mpo : Int → Int) (mwy : Int → Int) (mdy : Int) (mhw : Int → Int) (mkk : Int → Int) (mkf : Int → Int) (mrs : Int → Int) (mrm : Int → Int) (mrw : Int → Int) (mth : Int) (maw : Int) (mgr : Int → Int) (mwa : Int → Int) (mre : Int) (mpl : Int) (mib : Int) (msn : Int) (mpn : Int → Int) (mlo : Int → Int) (mtl : Int → Int) (mke : Int → Int) (mim : Int → Int) (mhi : Int) (mp0 : Int) (mtk : Int) (mki : Value) (mun : Int → Int) (msd : Int) (mbe : Int → Int) (hM : WFm mn mh mkd mfg mag mpo mwy mhw mkk mkf mrs mrm mrw) (i : Int) (h0_ : 0 ≤ i ∧ i < 6) : MI l γ yX12_spreadsOf wsX12_spreadsOf rmX12_spreadsOf [.ref (a 0), .int (iN (i))] (WM γ a mh mn mkd mfg mag mpo mwy mdy mhw mkk mkf mrs mrm mrw mth maw mgr mwa mre mpl mib msn mpn mlo mtl mke mim mhi mp0 mtk mki mun msd mbe) (fun r_ w_ => r_ = (spL mkd i) ∧ w_ = (WM γ a mh mn mkd mfg mag mpo mwy mdy mhw mkk mkf mrs mrm mrw mth maw mgr mwa mre mpl mib msn mpn mlo mtl mke mim mhi mp0 mtk mki mun msd mbe)) 0 0 := by
  refine MI.of (cc := cX12_spreadsOf) (maxL := 2) (rt := .int) RX12 rfl (by decide +kernel) rfl (Nat.le_of_ble_eq_true rfl) ?_
  intro X C hγ hl hnm hret
  subst hγ
  have hMn := WFm.n hM
  show Wx X 0 0 (WM X.γ a mh mn mkd mfg mag mpo mwy mdy mhw mkk mkf mrs mrm mrw mth maw mgr mwa mre mpl mib msn mpn mlo mtl mke mim mhi mp0 mtk mki mun msd mbe) 0 [(0, .ref (a 0)), (1, .int (iN (i)))] []
  refine x_aload_n C 0 rfl rfl dX12_spreadsOf_0 ?_
  refine x_get C in_X12_spreadsOf_X12 0 rfl rfl 2 (by decide) (List.mem_of_getElem? (i := 1) rfl) rfl (v := .ref (a 2)) rfl dX12_spreadsOf_1 ?_
  refine x_iload_n C 1 rfl rfl dX12_spreadsOf_4 ?_
  refine x_iaload C (f := mkd) 2 rfl (by omega) rfl dX12_spreadsOf_5 ?_
  have b5 := WFm.kd hM (i)
  refine x_iconst (v := 0) C dX12_spreadsOf_6 ?_
  refine x_icmp_ne C 14 (by decide) (by omega) dX12_spreadsOf_7 (fun c_7 => ?_) (fun c_7 => ?_)
  · refine x_aload_n C 0 rfl rfl dX12_spreadsOf_14 ?_
    refine x_get C in_X12_spreadsOf_X12 0 rfl rfl 2 (by decide) (List.mem_of_getElem? (i := 1) rfl) rfl (v := .ref (a 2)) rfl dX12_spreadsOf_15 ?_
    refine x_iload_n C 1 rfl rfl dX12_spreadsOf_18 ?_
    refine x_iaload C (f := mkd) 2 rfl (by omega) rfl dX12_spreadsOf_19 ?_
    have b6 := WFm.kd hM (i)
    refine x_iconst (v := 0) C dX12_spreadsOf_20 ?_
    refine x_icmp_eq C 34 (by decide) (by omega) dX12_spreadsOf_21 (fun c_21 => ?_) (fun c_21 => ?_)
    · refine x_iconst (v := 0) C dX12_spreadsOf_34 ?_
      refine x_goto C 39 (by decide) dX12_spreadsOf_35 ?_
      exact hret _ _ _ _ dX12_spreadsOf_39 rfl ⟨(by simp only [spL]; unfold spF; omega), rfl⟩
    · refine x_aload_n C 0 rfl rfl dX12_spreadsOf_24 ?_
      refine x_get C in_X12_spreadsOf_X12 0 rfl rfl 2 (by decide) (List.mem_of_getElem? (i := 1) rfl) rfl (v := .ref (a 2)) rfl dX12_spreadsOf_25 ?_
      refine x_iload_n C 1 rfl rfl dX12_spreadsOf_28 ?_
      refine x_iaload C (f := mkd) 2 rfl (by omega) rfl dX12_spreadsOf_29 ?_
      have b7 := WFm.kd hM (i)
      refine x_iconst (v := 0) C dX12_spreadsOf_30 ?_
      refine x_icmp_ne C 38 (by decide) (by omega) dX12_spreadsOf_31 (fun c_31 => ?_) (fun c_31 => ?_)
      · refine x_iconst (v := 0) C dX12_spreadsOf_38 ?_
        exact hret _ _ _ _ dX12_spreadsOf_39 rfl ⟨(by simp only [spL]; unfold spF; omega), rfl⟩
      · refine x_iconst (v := 0) C dX12_spreadsOf_34 ?_
        refine x_goto C 39 (by decide) dX12_spreadsOf_35 ?_
        exact hret _ _ _ _ dX12_spreadsOf_39 rfl ⟨(by simp only [spL]; unfold spF; omega), rfl⟩
  · refine x_iconst (v := 0) C dX12_spreadsOf_10 ?_
    refine x_goto C 39 (by decide) dX12_spreadsOf_11 ?_
    exact hret _ _ _ _ dX12_spreadsOf_39 rfl ⟨(by simp only [spL]; unfold spF; omega), rfl⟩
theorem in_X12_strideOf_X12 : ∀ w ∈ u_ws RX12 TX12 34, w ∈ wsX12_strideOf := by decide +kernel
theorem ok_X12_strideOf : okY yX12_strideOf 1 := by decide +kernel
def rmX12_strideOf : Room := { frames := 0, cells := 0, slots := 0, locals := 0 }
set_option maxRecDepth 100000 in
set_option maxHeartbeats 400000 in
theorem c_X12_strideOf (l : Launch) (γ : GX) (a : Nat → Nat) (mh : Int → Int) (mn : Int) (mkd : Int → Int) (mfg : Int → Int) (mag : Int → Int) (mpo : Int → Int) (mwy : Int → Int) (mdy : Int) (mhw : Int → Int) (mkk : Int → Int) (mkf : Int → Int) (mrs : Int → Int) (mrm : Int → Int) (mrw : Int → Int) (mth : Int) (maw : Int) (mgr : Int → Int) (mwa : Int → Int) (mre : Int) (mpl : Int) (mib : Int) (msn : Int) (mpn : Int → Int) (mlo : Int → Int) (mtl : Int → Int) (mke : Int → Int) (mim : Int → Int) (mhi : Int) (mp0 : Int) (mtk : Int) (mki : Value) (mun : Int → Int) (msd : Int) (mbe : Int → Int) (hM : WFm mn mh mkd mfg mag mpo mwy mhw mkk mkf mrs mrm mrw) (i : Int) (h0_ : 0 ≤ i ∧ i < 6) : MI l γ yX12_strideOf wsX12_strideOf rmX12_strideOf [.ref (a 0), .int (iN (i))] (WM γ a mh mn mkd mfg mag mpo mwy mdy mhw mkk mkf mrs mrm mrw mth maw mgr mwa mre mpl mib msn mpn mlo mtl mke mim mhi mp0 mtk mki mun msd mbe) (fun r_ w_ => r_ = (srL mkd mfg i) ∧ w_ = (WM γ a mh mn mkd mfg mag mpo mwy mdy mhw mkk mkf mrs mrm mrw mth maw mgr mwa mre mpl mib msn mpn mlo mtl mke mim mhi mp0 mtk mki mun msd mbe)) 0 0 := by
  refine MI.of (cc := cX12_strideOf) (maxL := 2) (rt := .int) RX12 rfl (by decide +kernel) rfl (Nat.le_of_ble_eq_true rfl) ?_
  intro X C hγ hl hnm hret
  subst hγ
  have hMn := WFm.n hM
  show Wx X 0 0 (WM X.γ a mh mn mkd mfg mag mpo mwy mdy mhw mkk mkf mrs mrm mrw mth maw mgr mwa mre mpl mib msn mpn mlo mtl mke mim mhi mp0 mtk mki mun msd mbe) 0 [(0, .ref (a 0)), (1, .int (iN (i)))] []
  refine x_aload_n C 0 rfl rfl dX12_strideOf_0 ?_
  refine x_get C in_X12_strideOf_X12 0 rfl rfl 2 (by decide) (List.mem_of_getElem? (i := 1) rfl) rfl (v := .ref (a 2)) rfl dX12_strideOf_1 ?_
  refine x_iload_n C 1 rfl rfl dX12_strideOf_4 ?_
  refine x_iaload C (f := mkd) 2 rfl (by omega) rfl dX12_strideOf_5 ?_
  have b8 := WFm.kd hM (i)
  rcases (show (mkd i) = 1 ∨ (mkd i) = 2 ∨ (mkd i) = 3 ∨ (mkd i) = 4 ∨ (mkd i) = 5 ∨ (mkd i) = 6 ∨ (mkd i) = 7 ∨ ((mkd i) < 1 ∨ 7 < (mkd i)) by omega) with s_6 | s_6 | s_6 | s_6 | s_6 | s_6 | s_6 | s_6
  · refine x_tabIn C 48 (42) (by omega) (by omega) (by omega) (by rw [s_6]; rfl) (by decide) dX12_strideOf_6 ?_
    refine x_iconst (v := 0) C dX12_strideOf_48 ?_
    exact hret _ _ _ _ dX12_strideOf_49 rfl ⟨(by simp only [srL]; unfold srF; omega), rfl⟩
  · refine x_tabIn C 65 (59) (by omega) (by omega) (by omega) (by rw [s_6]; rfl) (by decide) dX12_strideOf_6 ?_
    refine x_iconst (v := 0) C dX12_strideOf_65 ?_
    exact hret _ _ _ _ dX12_strideOf_66 rfl ⟨(by simp only [srL]; unfold srF; omega), rfl⟩
  · refine x_tabIn C 50 (44) (by omega) (by omega) (by omega) (by rw [s_6]; rfl) (by decide) dX12_strideOf_6 ?_
    refine x_iconst (v := 0) C dX12_strideOf_50 ?_
    exact hret _ _ _ _ dX12_strideOf_51 rfl ⟨(by simp only [srL]; unfold srF; omega), rfl⟩
  · refine x_tabIn C 50 (44) (by omega) (by omega) (by omega) (by rw [s_6]; rfl) (by decide) dX12_strideOf_6 ?_
    refine x_iconst (v := 0) C dX12_strideOf_50 ?_
    exact hret _ _ _ _ dX12_strideOf_51 rfl ⟨(by simp only [srL]; unfold srF; omega), rfl⟩
  · refine x_tabIn C 48 (42) (by omega) (by omega) (by omega) (by rw [s_6]; rfl) (by decide) dX12_strideOf_6 ?_
    refine x_iconst (v := 0) C dX12_strideOf_48 ?_
    exact hret _ _ _ _ dX12_strideOf_49 rfl ⟨(by simp only [srL]; unfold srF; omega), rfl⟩
  · refine x_tabIn C 52 (46) (by omega) (by omega) (by omega) (by rw [s_6]; rfl) (by decide) dX12_strideOf_6 ?_
    refine x_iconst (v := 0) C dX12_strideOf_52 ?_
    exact hret _ _ _ _ dX12_strideOf_53 rfl ⟨(by simp only [srL]; unfold srF; omega), rfl⟩
  · refine x_tabIn C 54 (48) (by omega) (by omega) (by omega) (by rw [s_6]; rfl) (by decide) dX12_strideOf_6 ?_
    refine x_iconst (v := 0) C dX12_strideOf_54 ?_
    refine x_aload_n C 0 rfl rfl dX12_strideOf_55 ?_
    refine x_get C in_X12_strideOf_X12 0 rfl rfl 3 (by decide) (List.mem_of_getElem? (i := 2) rfl) rfl (v := .ref (a 3)) rfl dX12_strideOf_56 ?_
    refine x_iload_n C 1 rfl rfl dX12_strideOf_59 ?_
    refine x_iaload C (f := mfg) 3 rfl (by omega) rfl dX12_strideOf_60 ?_
    have b9 := WFm.fg hM (i)
    refine x_iconst (v := 0) C dX12_strideOf_61 ?_
    refine x_idiv C (by omega) dX12_strideOf_62 ?_
    refine x_iadd C dX12_strideOf_63 ?_
    exact hret _ _ _ _ dX12_strideOf_64 rfl ⟨(by simp only [srL]; unfold srF; omega), rfl⟩
  · refine x_tabOut C 65 (by omega) s_6 (by decide) dX12_strideOf_6 ?_
    refine x_iconst (v := 0) C dX12_strideOf_65 ?_
    exact hret _ _ _ _ dX12_strideOf_66 rfl ⟨(by simp only [srL]; unfold srF; omega), rfl⟩
theorem in_X12_showsOf_X12 : ∀ w ∈ u_ws RX12 TX12 34, w ∈ wsX12_showsOf := by decide +kernel
theorem ok_X12_showsOf : okY yX12_showsOf 1 := by decide +kernel
def rmX12_showsOf : Room := { frames := 1, cells := 0, slots := 0, locals := 20 }
set_option maxRecDepth 100000 in
set_option maxHeartbeats 400000 in
theorem c_X12_showsOf (l : Launch) (γ : GX) (a : Nat → Nat) (mh : Int → Int) (mn : Int) (mkd : Int → Int) (mfg : Int → Int) (mag : Int → Int) (mpo : Int → Int) (mwy : Int → Int) (mdy : Int) (mhw : Int → Int) (mkk : Int → Int) (mkf : Int → Int) (mrs : Int → Int) (mrm : Int → Int) (mrw : Int → Int) (mth : Int) (maw : Int) (mgr : Int → Int) (mwa : Int → Int) (mre : Int) (mpl : Int) (mib : Int) (msn : Int) (mpn : Int → Int) (mlo : Int → Int) (mtl : Int → Int) (mke : Int → Int) (mim : Int → Int) (mhi : Int) (mp0 : Int) (mtk : Int) (mki : Value) (mun : Int → Int) (msd : Int) (mbe : Int → Int) (hM : WFm mn mh mkd mfg mag mpo mwy mhw mkk mkf mrs mrm mrw) (i : Int) (h0_ : 0 ≤ i ∧ i < 6) : MI l γ yX12_showsOf wsX12_showsOf rmX12_showsOf [.ref (a 0), .int (iN (i))] (WM γ a mh mn mkd mfg mag mpo mwy mdy mhw mkk mkf mrs mrm mrw mth maw mgr mwa mre mpl mib msn mpn mlo mtl mke mim mhi mp0 mtk mki mun msd mbe) (fun r_ w_ => r_ = (shF (mkd i) (mfg i) (mag i)) ∧ w_ = (WM γ a mh mn mkd mfg mag mpo mwy mdy mhw mkk mkf mrs mrm mrw mth maw mgr mwa mre mpl mib msn mpn mlo mtl mke mim mhi mp0 mtk mki mun msd mbe)) 0 0 := by
  refine MI.of (cc := cX12_showsOf) (maxL := 3) (rt := .int) RX12 rfl (by decide +kernel) rfl (Nat.le_of_ble_eq_true rfl) ?_
  intro X C hγ hl hnm hret
  subst hγ
  have hMn := WFm.n hM
  show Wx X 0 0 (WM X.γ a mh mn mkd mfg mag mpo mwy mdy mhw mkk mkf mrs mrm mrw mth maw mgr mwa mre mpl mib msn mpn mlo mtl mke mim mhi mp0 mtk mki mun msd mbe) 0 [(0, .ref (a 0)), (1, .int (iN (i)))] []
  refine x_aload_n C 0 rfl rfl dX12_showsOf_0 ?_
  refine x_get C in_X12_showsOf_X12 0 rfl rfl 4 (by decide) (List.mem_of_getElem? (i := 1) rfl) rfl (v := .ref (a 4)) rfl dX12_showsOf_1 ?_
  refine x_iload_n C 1 rfl rfl dX12_showsOf_4 ?_
  refine x_iaload C (f := mag) 4 rfl (by omega) rfl dX12_showsOf_5 ?_
  have b10 := WFm.ag hM (i)
  refine x_aload_n C 0 rfl rfl dX12_showsOf_6 ?_
  refine x_get C in_X12_showsOf_X12 0 rfl rfl 3 (by decide) (List.mem_of_getElem? (i := 2) rfl) rfl (v := .ref (a 3)) rfl dX12_showsOf_7 ?_
  refine x_iload_n C 1 rfl rfl dX12_showsOf_10 ?_
  refine x_iaload C (f := mfg) 3 rfl (by omega) rfl dX12_showsOf_11 ?_
  have b11 := WFm.fg hM (i)
  refine x_isub C dX12_showsOf_12 ?_
  refine x_bipush C (10) (by decide) dX12_showsOf_13 ?_
  refine x_isub C dX12_showsOf_15 ?_
  refine x_S_I C (As := [.int (iN (((mag i) - (mfg i)) - 10))]) (rest := []) 1 gX12_showsOf_X12_above (c_X12_above _ _ (WM X.γ a mh mn mkd mfg mag mpo mwy mdy mhw mkk mkf mrs mrm mrw mth maw mgr mwa mre mpl mib msn mpn mlo mtl mke mim mhi mp0 mtk mki mun msd mbe) (((mag i) - (mfg i)) - 10) (by omega)) rfl ok_X12_above rfl rfl rfl rfl dX12_showsOf_16 (fun r w1 hp => ?_)
  obtain ⟨rfl, rfl⟩ := hp
  refine x_istore_n C [(2, .int (iN (if (((mag i) - (mfg i)) - 10) < 0 then 0 else (((mag i) - (mfg i)) - 10)))), (0, .ref (a 0)), (1, .int (iN (i)))] rfl (by decide) rfl dX12_showsOf_19 ?_
  refine x_aload_n C 1 rfl rfl dX12_showsOf_20 ?_
  refine x_get C in_X12_showsOf_X12 0 rfl rfl 2 (by decide) (List.mem_of_getElem? (i := 3) rfl) rfl (v := .ref (a 2)) rfl dX12_showsOf_21 ?_
  refine x_iload_n C 2 rfl rfl dX12_showsOf_24 ?_
  refine x_iaload C (f := mkd) 2 rfl (by omega) rfl dX12_showsOf_25 ?_
  have b12 := WFm.kd hM (i)
  refine x_iconst (v := 0) C dX12_showsOf_26 ?_
  refine x_icmp_ne C 34 (by decide) (by omega) dX12_showsOf_27 (fun c_27 => ?_) (fun c_27 => ?_)
  · refine x_aload_n C 1 rfl rfl dX12_showsOf_34 ?_
    refine x_get C in_X12_showsOf_X12 0 rfl rfl 2 (by decide) (List.mem_of_getElem? (i := 3) rfl) rfl (v := .ref (a 2)) rfl dX12_showsOf_35 ?_
    refine x_iload_n C 2 rfl rfl dX12_showsOf_38 ?_
    refine x_iaload C (f := mkd) 2 rfl (by omega) rfl dX12_showsOf_39 ?_
    have b13 := WFm.kd hM (i)
    refine x_bipush C (6) (by decide) dX12_showsOf_40 ?_
    refine x_icmp_ne C 51 (by decide) (by omega) dX12_showsOf_42 (fun c_42 => ?_) (fun c_42 => ?_)
    · refine x_aload_n C 1 rfl rfl dX12_showsOf_51 ?_
      refine x_get C in_X12_showsOf_X12 0 rfl rfl 4 (by decide) (List.mem_of_getElem? (i := 1) rfl) rfl (v := .ref (a 4)) rfl dX12_showsOf_52 ?_
      refine x_iload_n C 2 rfl rfl dX12_showsOf_55 ?_
      refine x_iaload C (f := mag) 4 rfl (by omega) rfl dX12_showsOf_56 ?_
      have b14 := WFm.ag hM (i)
      exact hret _ _ _ _ dX12_showsOf_57 rfl ⟨(by unfold shF shH; omega), rfl⟩
    · refine x_iload_n C 0 rfl rfl dX12_showsOf_45 ?_
      refine x_iconst (v := 0) C dX12_showsOf_46 ?_
      refine x_idiv C (by omega) dX12_showsOf_47 ?_
      refine x_goto C 57 (by decide) dX12_showsOf_48 ?_
      exact hret _ _ _ _ dX12_showsOf_57 rfl ⟨(by unfold shF shH; omega), rfl⟩
  · refine x_iload_n C 0 rfl rfl dX12_showsOf_30 ?_
    refine x_goto C 57 (by decide) dX12_showsOf_31 ?_
    exact hret _ _ _ _ dX12_showsOf_57 rfl ⟨(by unfold shF shH; omega), rfl⟩
theorem in_X12_layGround_X12 : ∀ w ∈ u_ws RX12 TX12 34, w ∈ wsX12_layGround := by decide +kernel
theorem ok_X12_layGround : okY yX12_layGround 0 := by decide +kernel
def rmX12_layGround : Room := { frames := 2, cells := 0, slots := 0, locals := 43 }
set_option maxRecDepth 100000 in
set_option maxHeartbeats 400000 in
theorem c_X12_layGround (l : Launch) (γ : GX) (a : Nat → Nat) (mh : Int → Int) (mn : Int) (mkd : Int → Int) (mfg : Int → Int) (mag : Int → Int) (mpo : Int → Int) (mwy : Int → Int) (mdy : Int) (mhw : Int → Int) (mkk : Int → Int) (mkf : Int → Int) (mrs : Int → Int) (mrm : Int → Int) (mrw : Int → Int) (mth : Int) (maw : Int) (mgr : Int → Int) (mwa : Int → Int) (mre : Int) (mpl : Int) (mib : Int) (msn : Int) (mpn : Int → Int) (mlo : Int → Int) (mtl : Int → Int) (mke : Int → Int) (mim : Int → Int) (mhi : Int) (mp0 : Int) (mtk : Int) (mki : Value) (mun : Int → Int) (msd : Int) (mbe : Int → Int) (hA : 0 ≤ maw ∧ maw < 64) (hM : WFm mn mh mkd mfg mag mpo mwy mhw mkk mkf mrs mrm mrw) : MV l γ yX12_layGround wsX12_layGround rmX12_layGround [.ref (a 0)] (WM γ a mh mn mkd mfg mag mpo mwy mdy mhw mkk mkf mrs mrm mrw mth maw mgr mwa mre mpl mib msn mpn mlo mtl mke mim mhi mp0 mtk mki mun msd mbe) (fun w_ => w_ = (WM γ a mh mn mkd mfg mag mpo mwy mdy mhw mkk mkf mrs mrm mrw mth maw (Ct.g (La mh mn mdy mkd mfg mag mpo mwy maw)) mwa mre mpl mib msn mpn mlo mtl mke mim mhi mp0 mtk mki mun msd mbe)) 0 0 := by
  refine MV.of (cc := cX12_layGround) (maxL := 5) RX12 rfl (by decide +kernel) rfl (Nat.le_of_ble_eq_true rfl) ?_
  intro X C hγ hl hnm hret
  subst hγ
  have hMn := WFm.n hM
  show Wx X 0 0 (WM X.γ a mh mn mkd mfg mag mpo mwy mdy mhw mkk mkf mrs mrm mrw mth maw mgr mwa mre mpl mib msn mpn mlo mtl mke mim mhi mp0 mtk mki mun msd mbe) 0 [(0, .ref (a 0))] []
  refine x_iconst (v := 0) C dX12_layGround_0 ?_
  refine x_istore_n C [(1, .int (iN (0))), (0, .ref (a 0))] rfl (by decide) rfl dX12_layGround_1 ?_
  have LP2 : ∀ (f : Nat) (c : Nat) (G : Int → Int) (v1_2 : Int), (15 - c < f) → (c ≤ 15) → (∀ j : Int, 0 ≤ j → j < (c : Int) → G j = Ct.g (La mh mn mdy mkd mfg mag mpo mwy maw) j) → (((c : Int)) = v1_2) → Wx X 0 0 (WM X.γ a mh mn mkd mfg mag mpo mwy mdy mhw mkk mkf mrs mrm mrw mth maw G mwa mre mpl mib msn mpn mlo mtl mke mim mhi mp0 mtk mki mun msd mbe) 2 [(1, .int (iN (v1_2))), (0, .ref (a 0))] [] := by
    intro f
    induction f with
    | zero => intro c G v1_2 hf; exact absurd hf (Nat.not_lt_zero _)
    | succ f ih2 =>
      intro c G v1_2 hf hc hG e1_2
      subst e1_2
      refine x_iload_n C 0 rfl rfl dX12_layGround_2 ?_
      refine x_bipush C (15) (by decide) dX12_layGround_3 ?_
      refine x_icmp_ge C 101 (by decide) (by omega) dX12_layGround_5 (fun c_5 => ?_) (fun c_5 => ?_)
      · refine x_canonI (f := G) (g := Ct.g (La mh mn mdy mkd mfg mag mpo mwy maw)) 13 rfl (fun i h1 h2 => hG i h1 (by omega)) (WM X.γ a mh mn mkd mfg mag mpo mwy mdy mhw mkk mkf mrs mrm mrw mth maw (Ct.g (La mh mn mdy mkd mfg mag mpo mwy maw)) mwa mre mpl mib msn mpn mlo mtl mke mim mhi mp0 mtk mki mun msd mbe) rfl ?_
        exact hret _ _ _ dX12_layGround_101 rfl
      · refine x_iconst (v := 0) C dX12_layGround_8 ?_
        refine x_istore_n C [(2, .int (iN (0))), (1, .int (iN ((c : Int)))), (0, .ref (a 0))] rfl (by decide) rfl dX12_layGround_9 ?_
        refine x_iconst (v := 0) C dX12_layGround_10 ?_
        refine x_istore_n C [(3, .int (iN (0))), (2, .int (iN (0))), (1, .int (iN ((c : Int)))), (0, .ref (a 0))] rfl (by decide) rfl dX12_layGround_11 ?_
        have LP12 : ∀ (f : Nat) (k : Nat) (v3_12 : Int) (v2_12 : Int), (mn.toNat - k < f) → (k ≤ mn.toNat) → (((k : Int)) = v3_12) → (v2_12 = (psm mpo (prA mkd mfg mag maw) (spL mkd) (c : Int) k)) → Wx X 0 0 (WM X.γ a mh mn mkd mfg mag mpo mwy mdy mhw mkk mkf mrs mrm mrw mth maw G mwa mre mpl mib msn mpn mlo mtl mke mim mhi mp0 mtk mki mun msd mbe) 12 [(3, .int (iN (v3_12))), (2, .int (iN (v2_12))), (1, .int (iN ((c : Int)))), (0, .ref (a 0))] [] := by
          intro f
          induction f with
          | zero => intro k v3_12 v2_12 hf; exact absurd hf (Nat.not_lt_zero _)
          | succ f ih12 =>
            intro k v3_12 v2_12 hf hk e3_12 e2_12
            subst e3_12
            have bp := psm_b (po := mpo) (sp := spL mkd) (WFm.pa hM maw) (c : Int) k
            refine x_iload_n C 0 rfl rfl dX12_layGround_12 ?_
            refine x_aload_n C 3 rfl rfl dX12_layGround_13 ?_
            refine x_get C in_X12_layGround_X12 0 rfl rfl 1 (by decide) (List.mem_of_getElem? (i := 1) rfl) rfl (v := .int (iN (mn))) rfl dX12_layGround_14 ?_
            refine x_icmp_ge C 78 (by decide) (by omega) dX12_layGround_17 (fun c_17 => ?_) (fun c_17 => ?_)
            · refine x_aload_n C 3 rfl rfl dX12_layGround_78 ?_
              refine x_get C in_X12_layGround_X12 0 rfl rfl 16 (by decide) (List.mem_of_getElem? (i := 4) rfl) rfl (v := .ref (a 13)) rfl dX12_layGround_79 ?_
              refine x_iload_n C 2 rfl rfl dX12_layGround_82 ?_
              refine x_aload_n C 3 rfl rfl dX12_layGround_83 ?_
              refine x_get C in_X12_layGround_X12 0 rfl rfl 0 (by decide) (List.mem_of_getElem? (i := 5) rfl) rfl (v := .ref (a 1)) rfl dX12_layGround_84 ?_
              refine x_iload_n C 2 rfl rfl dX12_layGround_87 ?_
              refine x_iaload C (f := mh) 1 rfl (by omega) rfl dX12_layGround_88 ?_
              have b15 := WFm.h hM ((c : Int))
              refine x_iload_n C 1 rfl rfl dX12_layGround_89 ?_
              refine x_isub C dX12_layGround_90 ?_
              refine x_S_I C (As := [.int (iN ((mh (c : Int)) - v2_12))]) (rest := [.int (iN ((c : Int))), .ref (a 13)]) 1 gX12_layGround_X12_above (c_X12_above _ _ (WM X.γ a mh mn mkd mfg mag mpo mwy mdy mhw mkk mkf mrs mrm mrw mth maw G mwa mre mpl mib msn mpn mlo mtl mke mim mhi mp0 mtk mki mun msd mbe) ((mh (c : Int)) - v2_12) (by omega)) rfl ok_X12_above rfl rfl rfl rfl dX12_layGround_91 (fun r w1 hp => ?_)
              obtain ⟨rfl, rfl⟩ := hp
              show Wx X 0 0 (WM X.γ a mh mn mkd mfg mag mpo mwy mdy mhw mkk mkf mrs mrm mrw mth maw G mwa mre mpl mib msn mpn mlo mtl mke mim mhi mp0 mtk mki mun msd mbe) 94 [(3, .int (iN ((k : Int)))), (2, .int (iN (v2_12))), (1, .int (iN ((c : Int)))), (0, .ref (a 0))] [.int (iN (if ((mh (c : Int)) - v2_12) < 0 then 0 else ((mh (c : Int)) - v2_12))), .int (iN ((c : Int))), .ref (a 13)]
              refine x_iastore C (f := G) 13 rfl (by omega) rfl (WM X.γ a mh mn mkd mfg mag mpo mwy mdy mhw mkk mkf mrs mrm mrw mth maw (upz G (c : Int) (if ((mh (c : Int)) - v2_12) < 0 then 0 else ((mh (c : Int)) - v2_12))) mwa mre mpl mib msn mpn mlo mtl mke mim mhi mp0 mtk mki mun msd mbe) rfl dX12_layGround_94 ?_
              refine x_iinc C 2 [(1, .int (iN ((c : Int) + 1))), (3, .int (iN ((k : Int)))), (2, .int (iN (v2_12))), (0, .ref (a 0))] rfl rfl (by decide) rfl dX12_layGround_95 ?_
              refine x_goto C 2 (by decide) dX12_layGround_98 ?_
              refine Wx.subL [0, 3] rfl ?_
              exact ih2 (c + 1) (upz G (c : Int) (if ((mh (c : Int)) - v2_12) < 0 then 0 else ((mh (c : Int)) - v2_12))) _ (by omega) (by omega) (fun j h1 h2 => upz_up (F := Ct.g (La mh mn mdy mkd mfg mag mpo mwy maw)) hG (by show _ = gnd mh mn mpo (prA mkd mfg mag maw) (spL mkd) (c : Int); unfold gnd; have hz : k = mn.toNat := (by omega); subst hz; rw [e2_12]) j h1 (by omega)) (by omega)
            · refine x_aload_n C 3 rfl rfl dX12_layGround_20 ?_
              refine x_get C in_X12_layGround_X12 0 rfl rfl 5 (by decide) (List.mem_of_getElem? (i := 2) rfl) rfl (v := .ref (a 5)) rfl dX12_layGround_21 ?_
              refine x_iload_n C 0 rfl rfl dX12_layGround_24 ?_
              refine x_iaload C (f := mpo) 5 rfl (by omega) rfl dX12_layGround_25 ?_
              have b16 := WFm.po hM ((k : Int))
              refine x_iload_n C 2 rfl rfl dX12_layGround_26 ?_
              refine x_isub C dX12_layGround_27 ?_
              refine x_S_I C (As := [.int (iN ((mpo (k : Int)) - (c : Int)))]) (rest := []) 1 gX12_layGround_X12_plainly (c_X12_plainly _ _ (WM X.γ a mh mn mkd mfg mag mpo mwy mdy mhw mkk mkf mrs mrm mrw mth maw G mwa mre mpl mib msn mpn mlo mtl mke mim mhi mp0 mtk mki mun msd mbe) ((mpo (k : Int)) - (c : Int)) (by omega)) rfl ok_X12_plainly rfl rfl rfl rfl dX12_layGround_28 (fun r w1 hp => ?_)
              obtain ⟨rfl, rfl⟩ := hp
              show Wx X 0 0 (WM X.γ a mh mn mkd mfg mag mpo mwy mdy mhw mkk mkf mrs mrm mrw mth maw G mwa mre mpl mib msn mpn mlo mtl mke mim mhi mp0 mtk mki mun msd mbe) 31 [(3, .int (iN ((k : Int)))), (2, .int (iN (v2_12))), (1, .int (iN ((c : Int)))), (0, .ref (a 0))] [.int (iN (if ((mpo (k : Int)) - (c : Int)) < 0 then - ((mpo (k : Int)) - (c : Int)) else ((mpo (k : Int)) - (c : Int))))]
              refine x_istore C [(4, .int (iN (if ((mpo (k : Int)) - (c : Int)) < 0 then - ((mpo (k : Int)) - (c : Int)) else ((mpo (k : Int)) - (c : Int))))), (3, .int (iN ((k : Int)))), (2, .int (iN (v2_12))), (1, .int (iN ((c : Int)))), (0, .ref (a 0))] (by decide) rfl dX12_layGround_31 ?_
              refine x_iload_n C 2 rfl rfl dX12_layGround_33 ?_
              refine x_aload_n C 4 rfl rfl dX12_layGround_34 ?_
              refine x_get C in_X12_layGround_X12 0 rfl rfl 15 (by decide) (List.mem_of_getElem? (i := 3) rfl) rfl (v := .int (iN (maw))) rfl dX12_layGround_35 ?_
              refine x_iload_n C 1 rfl rfl dX12_layGround_38 ?_
              refine x_S_I C (As := [.int (iN (maw)), .int (iN ((k : Int)))]) (rest := [.int (iN (v2_12))]) 2 gX12_layGround_X12_hasBit (c_X12_hasBit _ _ (WM X.γ a mh mn mkd mfg mag mpo mwy mdy mhw mkk mkf mrs mrm mrw mth maw G mwa mre mpl mib msn mpn mlo mtl mke mim mhi mp0 mtk mki mun msd mbe) (maw) ((k : Int)) (by omega) (by omega)) rfl ok_X12_hasBit rfl rfl rfl rfl dX12_layGround_39 (fun r w1 hp => ?_)
              obtain ⟨rfl, rfl⟩ := hp
              have LP70 : ∀ (s0_70 : Int), (s0_70 = (ones mpo (prA mkd mfg mag maw) (spL mkd) (c : Int) (k : Int))) → Wx X 0 0 (WM X.γ a mh mn mkd mfg mag mpo mwy mdy mhw mkk mkf mrs mrm mrw mth maw G mwa mre mpl mib msn mpn mlo mtl mke mim mhi mp0 mtk mki mun msd mbe) 70 [(4, .int (iN (if ((mpo (k : Int)) - (c : Int)) < 0 then - ((mpo (k : Int)) - (c : Int)) else ((mpo (k : Int)) - (c : Int))))), (3, .int (iN ((k : Int)))), (2, .int (iN (v2_12))), (1, .int (iN ((c : Int)))), (0, .ref (a 0))] [.int (iN (s0_70)), .int (iN (v2_12))] := by
                intro s0_70 es0_70
                have bo := ones_b (po := mpo) (sp := spL mkd) (WFm.pa hM maw) (c : Int) (k : Int)
                refine x_iadd C dX12_layGround_70 ?_
                refine x_istore_n C [(2, .int (iN (v2_12 + s0_70))), (4, .int (iN (if ((mpo (k : Int)) - (c : Int)) < 0 then - ((mpo (k : Int)) - (c : Int)) else ((mpo (k : Int)) - (c : Int))))), (3, .int (iN ((k : Int)))), (1, .int (iN ((c : Int)))), (0, .ref (a 0))] rfl (by decide) rfl dX12_layGround_71 ?_
                refine x_iinc C 2 [(3, .int (iN ((k : Int) + 1))), (2, .int (iN (v2_12 + s0_70))), (4, .int (iN (if ((mpo (k : Int)) - (c : Int)) < 0 then - ((mpo (k : Int)) - (c : Int)) else ((mpo (k : Int)) - (c : Int))))), (1, .int (iN ((c : Int)))), (0, .ref (a 0))] rfl rfl (by decide) rfl dX12_layGround_72 ?_
                refine x_goto C 12 (by decide) dX12_layGround_75 ?_
                refine Wx.subL [0, 1, 3, 4] rfl ?_
                exact ih12 (k + 1) _ _ (by omega) (by omega) (by omega) (by simp only [psm]; rw [es0_70, e2_12])
              refine x_ifne_bz C 55 (by decide) dX12_layGround_42 (fun c_42 => ?_) (fun c_42 => ?_)
              · refine x_iconst (v := 0) C dX12_layGround_55 ?_
                refine x_goto C 70 (by decide) dX12_layGround_56 ?_
                exact LP70 _ (by simp only [ones, prA]; rw [if_pos c_42]; omega)
              · refine x_iload C 0 rfl dX12_layGround_45 ?_
                refine x_aload_n C 4 rfl rfl dX12_layGround_47 ?_
                refine x_iload_n C 1 rfl rfl dX12_layGround_48 ?_
                refine x_V_I C (As := [.int (iN ((k : Int)))]) (rest := [.int (iN (if ((mpo (k : Int)) - (c : Int)) < 0 then - ((mpo (k : Int)) - (c : Int)) else ((mpo (k : Int)) - (c : Int)))), .int (iN (v2_12))]) 1 0 rfl rfl gX12_layGround_X12_spreadsOf rfl (c_X12_spreadsOf _ _ a mh mn mkd mfg mag mpo mwy mdy mhw mkk mkf mrs mrm mrw mth maw G mwa mre mpl mib msn mpn mlo mtl mke mim mhi mp0 mtk mki mun msd mbe hM ((k : Int)) (by omega)) rfl ok_X12_spreadsOf rfl rfl rfl rfl dX12_layGround_49 (fun r w1 hp => ?_)
                obtain ⟨rfl, rfl⟩ := hp
                show Wx X 0 0 (WM X.γ a mh mn mkd mfg mag mpo mwy mdy mhw mkk mkf mrs mrm mrw mth maw G mwa mre mpl mib msn mpn mlo mtl mke mim mhi mp0 mtk mki mun msd mbe) 52 [(4, .int (iN (if ((mpo (k : Int)) - (c : Int)) < 0 then - ((mpo (k : Int)) - (c : Int)) else ((mpo (k : Int)) - (c : Int))))), (3, .int (iN ((k : Int)))), (2, .int (iN (v2_12))), (1, .int (iN ((c : Int)))), (0, .ref (a 0))] [.int (iN (spL mkd ((k : Int)))), .int (iN (if ((mpo (k : Int)) - (c : Int)) < 0 then - ((mpo (k : Int)) - (c : Int)) else ((mpo (k : Int)) - (c : Int)))), .int (iN (v2_12))]
                have b17 := WFm.sp hM ((k : Int))
                refine x_icmp_le C 59 (by decide) (by omega) dX12_layGround_52 (fun c_52 => ?_) (fun c_52 => ?_)
                · refine x_aload_n C 4 rfl rfl dX12_layGround_59 ?_
                  refine x_iload_n C 1 rfl rfl dX12_layGround_60 ?_
                  refine x_V_I C (As := [.int (iN ((k : Int)))]) (rest := [.int (iN (v2_12))]) 1 0 rfl rfl gX12_layGround_X12_pressesOf rfl (c_X12_pressesOf _ _ a mh mn mkd mfg mag mpo mwy mdy mhw mkk mkf mrs mrm mrw mth maw G mwa mre mpl mib msn mpn mlo mtl mke mim mhi mp0 mtk mki mun msd mbe hM ((k : Int)) (by omega)) rfl ok_X12_pressesOf rfl rfl rfl rfl dX12_layGround_61 (fun r w1 hp => ?_)
                  obtain ⟨rfl, rfl⟩ := hp
                  show Wx X 0 0 (WM X.γ a mh mn mkd mfg mag mpo mwy mdy mhw mkk mkf mrs mrm mrw mth maw G mwa mre mpl mib msn mpn mlo mtl mke mim mhi mp0 mtk mki mun msd mbe) 64 [(4, .int (iN (if ((mpo (k : Int)) - (c : Int)) < 0 then - ((mpo (k : Int)) - (c : Int)) else ((mpo (k : Int)) - (c : Int))))), (3, .int (iN ((k : Int)))), (2, .int (iN (v2_12))), (1, .int (iN ((c : Int)))), (0, .ref (a 0))] [.int (iN (prL mkd mfg mag ((k : Int)))), .int (iN (v2_12))]
                  have b18 := WFm.pr hM ((k : Int))
                  refine x_iload C 0 rfl dX12_layGround_64 ?_
                  refine x_isub C dX12_layGround_66 ?_
                  refine x_S_I C (As := [.int (iN ((prL mkd mfg mag ((k : Int))) - (if ((mpo (k : Int)) - (c : Int)) < 0 then - ((mpo (k : Int)) - (c : Int)) else ((mpo (k : Int)) - (c : Int)))))]) (rest := [.int (iN (v2_12))]) 1 gX12_layGround_X12_above (c_X12_above _ _ (WM X.γ a mh mn mkd mfg mag mpo mwy mdy mhw mkk mkf mrs mrm mrw mth maw G mwa mre mpl mib msn mpn mlo mtl mke mim mhi mp0 mtk mki mun msd mbe) ((prL mkd mfg mag ((k : Int))) - (if ((mpo (k : Int)) - (c : Int)) < 0 then - ((mpo (k : Int)) - (c : Int)) else ((mpo (k : Int)) - (c : Int)))) (by omega)) rfl ok_X12_above rfl rfl rfl rfl dX12_layGround_67 (fun r w1 hp => ?_)
                  obtain ⟨rfl, rfl⟩ := hp
                  show Wx X 0 0 (WM X.γ a mh mn mkd mfg mag mpo mwy mdy mhw mkk mkf mrs mrm mrw mth maw G mwa mre mpl mib msn mpn mlo mtl mke mim mhi mp0 mtk mki mun msd mbe) 70 [(4, .int (iN (if ((mpo (k : Int)) - (c : Int)) < 0 then - ((mpo (k : Int)) - (c : Int)) else ((mpo (k : Int)) - (c : Int))))), (3, .int (iN ((k : Int)))), (2, .int (iN (v2_12))), (1, .int (iN ((c : Int)))), (0, .ref (a 0))] [.int (iN (if ((prL mkd mfg mag ((k : Int))) - (if ((mpo (k : Int)) - (c : Int)) < 0 then - ((mpo (k : Int)) - (c : Int)) else ((mpo (k : Int)) - (c : Int)))) < 0 then 0 else ((prL mkd mfg mag ((k : Int))) - (if ((mpo (k : Int)) - (c : Int)) < 0 then - ((mpo (k : Int)) - (c : Int)) else ((mpo (k : Int)) - (c : Int)))))), .int (iN (v2_12))]
                  exact LP70 _ (by simp only [ones, prA]; rw [if_neg c_42]; omega)
                · refine x_iconst (v := 0) C dX12_layGround_55 ?_
                  refine x_goto C 70 (by decide) dX12_layGround_56 ?_
                  exact LP70 _ (by simp only [ones, prA]; rw [if_neg c_42]; omega)
        exact LP12 ((mn.toNat - (0)) + 1) (0) _ _ (by omega) (by omega) (by omega) (rfl)
  exact LP2 ((15 - (0)) + 1) (0) (mgr) _ (by omega) (by omega) (fun j h1 h2 => by omega) (by omega)
theorem c_X12_layGround0 (l : Launch) (γ : GX) (a : Nat → Nat) (mh : Int → Int) (mn : Int) (mkd : Int → Int) (mfg : Int → Int) (mag : Int → Int) (mpo : Int → Int) (mwy : Int → Int) (mdy : Int) (mhw : Int → Int) (mkk : Int → Int) (mkf : Int → Int) (mrs : Int → Int) (mrm : Int → Int) (mrw : Int → Int) (mth : Int) (mgr : Int → Int) (mwa : Int → Int) (mre : Int) (mpl : Int) (mib : Int) (msn : Int) (mpn : Int → Int) (mlo : Int → Int) (mtl : Int → Int) (mke : Int → Int) (mim : Int → Int) (mhi : Int) (mp0 : Int) (mtk : Int) (mki : Value) (mun : Int → Int) (msd : Int) (mbe : Int → Int) (hM : WFm mn mh mkd mfg mag mpo mwy mhw mkk mkf mrs mrm mrw) : MV l γ yX12_layGround wsX12_layGround rmX12_layGround [.ref (a 0)] (WM γ a mh mn mkd mfg mag mpo mwy mdy mhw mkk mkf mrs mrm mrw mth 0 mgr mwa mre mpl mib msn mpn mlo mtl mke mim mhi mp0 mtk mki mun msd mbe) (fun w_ => w_ = WM γ a mh mn mkd mfg mag mpo mwy mdy mhw mkk mkf mrs mrm mrw mth 0 (Ct.g (Lc mh mn mdy mkd mfg mag mpo mwy)) mwa mre mpl mib msn mpn mlo mtl mke mim mhi mp0 mtk mki mun msd mbe) 0 0 :=
  (c_X12_layGround l γ a mh mn mkd mfg mag mpo mwy mdy mhw mkk mkf mrs mrm mrw mth 0 mgr mwa mre mpl mib msn mpn mlo mtl mke mim mhi mp0 mtk mki mun msd mbe (by omega) hM).post (fun w h => by rw [h, La_0])
theorem in_X12_groundAt_X12 : ∀ w ∈ u_ws RX12 TX12 34, w ∈ wsX12_groundAt := by decide +kernel
theorem ok_X12_groundAt : okY yX12_groundAt 1 := by decide +kernel
def rmX12_groundAt : Room := { frames := 3, cells := 0, slots := 0, locals := 67 }
set_option maxRecDepth 100000 in
set_option maxHeartbeats 400000 in
theorem c_X12_groundAt (l : Launch) (γ : GX) (a : Nat → Nat) (mh : Int → Int) (mn : Int) (mkd : Int → Int) (mfg : Int → Int) (mag : Int → Int) (mpo : Int → Int) (mwy : Int → Int) (mdy : Int) (mhw : Int → Int) (mkk : Int → Int) (mkf : Int → Int) (mrs : Int → Int) (mrm : Int → Int) (mrw : Int → Int) (mth : Int) (mgr : Int → Int) (mwa : Int → Int) (mre : Int) (mpl : Int) (mib : Int) (msn : Int) (mpn : Int → Int) (mlo : Int → Int) (mtl : Int → Int) (mke : Int → Int) (mim : Int → Int) (mhi : Int) (mp0 : Int) (mtk : Int) (mki : Value) (mun : Int → Int) (msd : Int) (mbe : Int → Int) (hM : WFm mn mh mkd mfg mag mpo mwy mhw mkk mkf mrs mrm mrw) (c : Int) (h0_ : 0 ≤ c ∧ c ≤ 14) : MI l γ yX12_groundAt wsX12_groundAt rmX12_groundAt [.ref (a 0), .int (iN (c))] (WM γ a mh mn mkd mfg mag mpo mwy mdy mhw mkk mkf mrs mrm mrw mth 0 mgr mwa mre mpl mib msn mpn mlo mtl mke mim mhi mp0 mtk mki mun msd mbe) (fun r_ w_ => r_ = (Ct.g (Lc mh mn mdy mkd mfg mag mpo mwy) c) ∧ w_ = (WM γ a mh mn mkd mfg mag mpo mwy mdy mhw mkk mkf mrs mrm mrw mth 0 (Ct.g (Lc mh mn mdy mkd mfg mag mpo mwy)) mwa mre mpl mib msn mpn mlo mtl mke mim mhi mp0 mtk mki mun msd mbe)) 0 0 := by
  refine MI.of (cc := cX12_groundAt) (maxL := 2) (rt := .int) RX12 rfl (by decide +kernel) rfl (Nat.le_of_ble_eq_true rfl) ?_
  intro X C hγ hl hnm hret
  subst hγ
  have hMn := WFm.n hM
  show Wx X 0 0 (WM X.γ a mh mn mkd mfg mag mpo mwy mdy mhw mkk mkf mrs mrm mrw mth 0 mgr mwa mre mpl mib msn mpn mlo mtl mke mim mhi mp0 mtk mki mun msd mbe) 0 [(0, .ref (a 0)), (1, .int (iN (c)))] []
  refine x_aload_n C 0 rfl rfl dX12_groundAt_0 ?_
  refine x_V_V C (As := []) (rest := []) 0 0 rfl rfl gX12_groundAt_X12_layGround rfl (c_X12_layGround0 _ _ a mh mn mkd mfg mag mpo mwy mdy mhw mkk mkf mrs mrm mrw mth mgr mwa mre mpl mib msn mpn mlo mtl mke mim mhi mp0 mtk mki mun msd mbe hM) rfl ok_X12_layGround rfl rfl rfl rfl dX12_groundAt_1 (fun w1 hp => ?_)
  obtain rfl := hp
  refine x_aload_n C 0 rfl rfl dX12_groundAt_4 ?_
  refine x_get C in_X12_groundAt_X12 0 rfl rfl 16 (by decide) (List.mem_of_getElem? (i := 1) rfl) rfl (v := .ref (a 13)) rfl dX12_groundAt_5 ?_
  refine x_iload_n C 1 rfl rfl dX12_groundAt_8 ?_
  refine x_iaload C (f := (Ct.g (Lc mh mn mdy mkd mfg mag mpo mwy))) 13 rfl (by omega) rfl dX12_groundAt_9 ?_
  have b19 := WFc.g (WFm.L hM mdy) (c)
  exact hret _ _ _ _ dX12_groundAt_10 rfl ⟨rfl, rfl⟩
theorem in_X12_riseAt_X12 : ∀ w ∈ u_ws RX12 TX12 34, w ∈ wsX12_riseAt := by decide +kernel
theorem ok_X12_riseAt : okY yX12_riseAt 1 := by decide +kernel
def rmX12_riseAt : Room := { frames := 0, cells := 0, slots := 0, locals := 0 }
set_option maxRecDepth 100000 in
set_option maxHeartbeats 400000 in
theorem c_X12_riseAt (l : Launch) (γ : GX) (a : Nat → Nat) (mh : Int → Int) (mn : Int) (mkd : Int → Int) (mfg : Int → Int) (mag : Int → Int) (mpo : Int → Int) (mwy : Int → Int) (mdy : Int) (mhw : Int → Int) (mkk : Int → Int) (mkf : Int → Int) (mrs : Int → Int) (mrm : Int → Int) (mrw : Int → Int) (mth : Int) (maw : Int) (mgr : Int → Int) (mwa : Int → Int) (mre : Int) (mpl : Int) (mib : Int) (msn : Int) (mpn : Int → Int) (mlo : Int → Int) (mtl : Int → Int) (mke : Int → Int) (mim : Int → Int) (mhi : Int) (mp0 : Int) (mtk : Int) (mki : Value) (mun : Int → Int) (msd : Int) (mbe : Int → Int) (c : Int) (h0_ : 0 ≤ c ∧ c ≤ 13) : MI l γ yX12_riseAt wsX12_riseAt rmX12_riseAt [.ref (a 0), .int (iN (c))] (WM γ a mh mn mkd mfg mag mpo mwy mdy mhw mkk mkf mrs mrm mrw mth maw mgr mwa mre mpl mib msn mpn mlo mtl mke mim mhi mp0 mtk mki mun msd mbe) (fun r_ w_ => r_ = mgr (c + 1) - mgr c ∧ w_ = (WM γ a mh mn mkd mfg mag mpo mwy mdy mhw mkk mkf mrs mrm mrw mth maw mgr mwa mre mpl mib msn mpn mlo mtl mke mim mhi mp0 mtk mki mun msd mbe)) 0 0 := by
  refine MI.of (cc := cX12_riseAt) (maxL := 2) (rt := .int) RX12 rfl (by decide +kernel) rfl (Nat.le_of_ble_eq_true rfl) ?_
  intro X C hγ hl hnm hret
  subst hγ
  show Wx X 0 0 (WM X.γ a mh mn mkd mfg mag mpo mwy mdy mhw mkk mkf mrs mrm mrw mth maw mgr mwa mre mpl mib msn mpn mlo mtl mke mim mhi mp0 mtk mki mun msd mbe) 0 [(0, .ref (a 0)), (1, .int (iN (c)))] []
  refine x_aload_n C 0 rfl rfl dX12_riseAt_0 ?_
  refine x_get C in_X12_riseAt_X12 0 rfl rfl 16 (by decide) (List.mem_of_getElem? (i := 1) rfl) rfl (v := .ref (a 13)) rfl dX12_riseAt_1 ?_
  refine x_iload_n C 1 rfl rfl dX12_riseAt_4 ?_
  refine x_iconst (v := 0) C dX12_riseAt_5 ?_
  refine x_iadd C dX12_riseAt_6 ?_
  refine x_iaload C (f := mgr) 13 rfl (by omega) rfl dX12_riseAt_7 ?_
  refine x_aload_n C 0 rfl rfl dX12_riseAt_8 ?_
  refine x_get C in_X12_riseAt_X12 0 rfl rfl 16 (by decide) (List.mem_of_getElem? (i := 1) rfl) rfl (v := .ref (a 13)) rfl dX12_riseAt_9 ?_
  refine x_iload_n C 1 rfl rfl dX12_riseAt_12 ?_
  refine x_iaload C (f := mgr) 13 rfl (by omega) rfl dX12_riseAt_13 ?_
  refine x_isub C dX12_riseAt_14 ?_
  exact hret _ _ _ _ dX12_riseAt_15 rfl ⟨rfl, rfl⟩
theorem ok_X12_greatestRise : okY yX12_greatestRise 0 := by decide +kernel
def rmX12_greatestRise : Room := { frames := 3, cells := 0, slots := 0, locals := 67 }
set_option maxRecDepth 100000 in
set_option maxHeartbeats 400000 in
theorem c_X12_greatestRise (l : Launch) (γ : GX) (a : Nat → Nat) (mh : Int → Int) (mn : Int) (mkd : Int → Int) (mfg : Int → Int) (mag : Int → Int) (mpo : Int → Int) (mwy : Int → Int) (mdy : Int) (mhw : Int → Int) (mkk : Int → Int) (mkf : Int → Int) (mrs : Int → Int) (mrm : Int → Int) (mrw : Int → Int) (mth : Int) (mgr : Int → Int) (mwa : Int → Int) (mre : Int) (mpl : Int) (mib : Int) (msn : Int) (mpn : Int → Int) (mlo : Int → Int) (mtl : Int → Int) (mke : Int → Int) (mim : Int → Int) (mhi : Int) (mp0 : Int) (mtk : Int) (mki : Value) (mun : Int → Int) (msd : Int) (mbe : Int → Int) (hM : WFm mn mh mkd mfg mag mpo mwy mhw mkk mkf mrs mrm mrw) : MI l γ yX12_greatestRise wsX12_greatestRise rmX12_greatestRise [.ref (a 0)] (WM γ a mh mn mkd mfg mag mpo mwy mdy mhw mkk mkf mrs mrm mrw mth 0 mgr mwa mre mpl mib msn mpn mlo mtl mke mim mhi mp0 mtk mki mun msd mbe) (fun r_ w_ => r_ = (mxz (Ct.s (Lc mh mn mdy mkd mfg mag mpo mwy)) 14) ∧ w_ = (WM γ a mh mn mkd mfg mag mpo mwy mdy mhw mkk mkf mrs mrm mrw mth 0 (Ct.g (Lc mh mn mdy mkd mfg mag mpo mwy)) mwa mre mpl mib msn mpn mlo mtl mke mim mhi mp0 mtk mki mun msd mbe)) 0 0 := by
  refine MI.of (cc := cX12_greatestRise) (maxL := 3) (rt := .int) RX12 rfl (by decide +kernel) rfl (Nat.le_of_ble_eq_true rfl) ?_
  intro X C hγ hl hnm hret
  subst hγ
  have hMn := WFm.n hM
  show Wx X 0 0 (WM X.γ a mh mn mkd mfg mag mpo mwy mdy mhw mkk mkf mrs mrm mrw mth 0 mgr mwa mre mpl mib msn mpn mlo mtl mke mim mhi mp0 mtk mki mun msd mbe) 0 [(0, .ref (a 0))] []
  refine x_aload_n C 0 rfl rfl dX12_greatestRise_0 ?_
  refine x_V_V C (As := []) (rest := []) 0 0 rfl rfl gX12_greatestRise_X12_layGround rfl (c_X12_layGround0 _ _ a mh mn mkd mfg mag mpo mwy mdy mhw mkk mkf mrs mrm mrw mth mgr mwa mre mpl mib msn mpn mlo mtl mke mim mhi mp0 mtk mki mun msd mbe hM) rfl ok_X12_layGround rfl rfl rfl rfl dX12_greatestRise_1 (fun w1 hp => ?_)
  obtain rfl := hp
  refine x_iconst (v := 0) C dX12_greatestRise_4 ?_
  refine x_istore_n C [(1, .int (iN (0))), (0, .ref (a 0))] rfl (by decide) rfl dX12_greatestRise_5 ?_
  refine x_iconst (v := 0) C dX12_greatestRise_6 ?_
  refine x_istore_n C [(2, .int (iN (0))), (1, .int (iN (0))), (0, .ref (a 0))] rfl (by decide) rfl dX12_greatestRise_7 ?_
  have LP8 : ∀ (f : Nat) (k : Nat) (v2_8 : Int) (v1_8 : Int), (14 - k < f) → (k ≤ 14) → (((k : Int)) = v2_8) → (v1_8 = (mxz (Ct.s (Lc mh mn mdy mkd mfg mag mpo mwy)) k)) → Wx X 0 0 (WM X.γ a mh mn mkd mfg mag mpo mwy mdy mhw mkk mkf mrs mrm mrw mth 0 (Ct.g (Lc mh mn mdy mkd mfg mag mpo mwy)) mwa mre mpl mib msn mpn mlo mtl mke mim mhi mp0 mtk mki mun msd mbe) 8 [(2, .int (iN (v2_8))), (1, .int (iN (v1_8))), (0, .ref (a 0))] [] := by
    intro f
    induction f with
    | zero => intro k v2_8 v1_8 hf; exact absurd hf (Nat.not_lt_zero _)
    | succ f ih8 =>
      intro k v2_8 v1_8 hf hk e2_8 e1_8
      subst e2_8
      have bm := mxz_b (WFc.s (WFm.L hM mdy)) k
      refine x_iload_n C 0 rfl rfl dX12_greatestRise_8 ?_
      refine x_bipush C (14) (by decide) dX12_greatestRise_9 ?_
      refine x_icmp_ge C 45 (by decide) (by omega) dX12_greatestRise_11 (fun c_11 => ?_) (fun c_11 => ?_)
      · refine x_iload_n C 1 rfl rfl dX12_greatestRise_45 ?_
        exact hret _ _ _ _ dX12_greatestRise_46 rfl ⟨(by have hz : k = 14 := (by omega); subst hz; exact e1_8), rfl⟩
      · refine x_aload_n C 2 rfl rfl dX12_greatestRise_14 ?_
        refine x_iload_n C 0 rfl rfl dX12_greatestRise_15 ?_
        refine x_V_I C (As := [.int (iN ((k : Int)))]) (rest := []) 1 0 rfl rfl gX12_greatestRise_X12_riseAt rfl (c_X12_riseAt _ _ a mh mn mkd mfg mag mpo mwy mdy mhw mkk mkf mrs mrm mrw mth 0 (Ct.g (Lc mh mn mdy mkd mfg mag mpo mwy)) mwa mre mpl mib msn mpn mlo mtl mke mim mhi mp0 mtk mki mun msd mbe ((k : Int)) (by omega)) rfl ok_X12_riseAt rfl rfl rfl rfl dX12_greatestRise_16 (fun r w1 hp => ?_)
        obtain ⟨rfl, rfl⟩ := hp
        show Wx X 0 0 (WM X.γ a mh mn mkd mfg mag mpo mwy mdy mhw mkk mkf mrs mrm mrw mth 0 (Ct.g (Lc mh mn mdy mkd mfg mag mpo mwy)) mwa mre mpl mib msn mpn mlo mtl mke mim mhi mp0 mtk mki mun msd mbe) 19 [(2, .int (iN ((k : Int)))), (1, .int (iN (v1_8))), (0, .ref (a 0))] [.int (iN ((Ct.g (Lc mh mn mdy mkd mfg mag mpo mwy)) ((k : Int) + 1) - (Ct.g (Lc mh mn mdy mkd mfg mag mpo mwy)) ((k : Int))))]
        have b20 := WFc.g (WFm.L hM mdy) ((k : Int))
        have b21 := WFc.g (WFm.L hM mdy) ((k : Int) + 1)
        refine x_S_I C (As := [.int (iN ((Ct.g (Lc mh mn mdy mkd mfg mag mpo mwy)) ((k : Int) + 1) - (Ct.g (Lc mh mn mdy mkd mfg mag mpo mwy)) ((k : Int))))]) (rest := []) 1 gX12_greatestRise_X12_plainly (c_X12_plainly _ _ (WM X.γ a mh mn mkd mfg mag mpo mwy mdy mhw mkk mkf mrs mrm mrw mth 0 (Ct.g (Lc mh mn mdy mkd mfg mag mpo mwy)) mwa mre mpl mib msn mpn mlo mtl mke mim mhi mp0 mtk mki mun msd mbe) ((Ct.g (Lc mh mn mdy mkd mfg mag mpo mwy)) ((k : Int) + 1) - (Ct.g (Lc mh mn mdy mkd mfg mag mpo mwy)) ((k : Int))) (by omega)) rfl ok_X12_plainly rfl rfl rfl rfl dX12_greatestRise_19 (fun r w1 hp => ?_)
        obtain ⟨rfl, rfl⟩ := hp
        show Wx X 0 0 (WM X.γ a mh mn mkd mfg mag mpo mwy mdy mhw mkk mkf mrs mrm mrw mth 0 (Ct.g (Lc mh mn mdy mkd mfg mag mpo mwy)) mwa mre mpl mib msn mpn mlo mtl mke mim mhi mp0 mtk mki mun msd mbe) 22 [(2, .int (iN ((k : Int)))), (1, .int (iN (v1_8))), (0, .ref (a 0))] [.int (iN (if ((Ct.g (Lc mh mn mdy mkd mfg mag mpo mwy)) ((k : Int) + 1) - (Ct.g (Lc mh mn mdy mkd mfg mag mpo mwy)) ((k : Int))) < 0 then - ((Ct.g (Lc mh mn mdy mkd mfg mag mpo mwy)) ((k : Int) + 1) - (Ct.g (Lc mh mn mdy mkd mfg mag mpo mwy)) ((k : Int))) else ((Ct.g (Lc mh mn mdy mkd mfg mag mpo mwy)) ((k : Int) + 1) - (Ct.g (Lc mh mn mdy mkd mfg mag mpo mwy)) ((k : Int)))))]
        refine x_iload_n C 1 rfl rfl dX12_greatestRise_22 ?_
        have LP38 : ∀ (s0_38 : Int), (s0_38 = (mxz (Ct.s (Lc mh mn mdy mkd mfg mag mpo mwy)) (k + 1))) → Wx X 0 0 (WM X.γ a mh mn mkd mfg mag mpo mwy mdy mhw mkk mkf mrs mrm mrw mth 0 (Ct.g (Lc mh mn mdy mkd mfg mag mpo mwy)) mwa mre mpl mib msn mpn mlo mtl mke mim mhi mp0 mtk mki mun msd mbe) 38 [(2, .int (iN ((k : Int)))), (1, .int (iN (v1_8))), (0, .ref (a 0))] [.int (iN (s0_38))] := by
          intro s0_38 es0_38
          refine x_istore_n C [(1, .int (iN (s0_38))), (2, .int (iN ((k : Int)))), (0, .ref (a 0))] rfl (by decide) rfl dX12_greatestRise_38 ?_
          refine x_iinc C 1 [(2, .int (iN ((k : Int) + 1))), (1, .int (iN (s0_38))), (0, .ref (a 0))] rfl rfl (by decide) rfl dX12_greatestRise_39 ?_
          refine x_goto C 8 (by decide) dX12_greatestRise_42 ?_
          exact ih8 (k + 1) _ _ (by omega) (by omega) (by omega) (es0_38)
        refine x_icmp_le C 37 (by decide) (by omega) dX12_greatestRise_23 (fun c_23 => ?_) (fun c_23 => ?_)
        · refine x_iload_n C 1 rfl rfl dX12_greatestRise_37 ?_
          exact LP38 _ (by have hs : Ct.s (Lc mh mn mdy mkd mfg mag mpo mwy) (k : Int) = azb (Ct.g (Lc mh mn mdy mkd mfg mag mpo mwy) ((k : Int) + 1) - Ct.g (Lc mh mn mdy mkd mfg mag mpo mwy) (k : Int)) := rfl; show _ = (if mxz (Ct.s (Lc mh mn mdy mkd mfg mag mpo mwy)) k < Ct.s (Lc mh mn mdy mkd mfg mag mpo mwy) (k : Int) then Ct.s (Lc mh mn mdy mkd mfg mag mpo mwy) (k : Int) else mxz (Ct.s (Lc mh mn mdy mkd mfg mag mpo mwy)) k); rw [hs]; simp only [azb]; omega)
        · refine x_aload_n C 2 rfl rfl dX12_greatestRise_26 ?_
          refine x_iload_n C 0 rfl rfl dX12_greatestRise_27 ?_
          refine x_V_I C (As := [.int (iN ((k : Int)))]) (rest := []) 1 0 rfl rfl gX12_greatestRise_X12_riseAt rfl (c_X12_riseAt _ _ a mh mn mkd mfg mag mpo mwy mdy mhw mkk mkf mrs mrm mrw mth 0 (Ct.g (Lc mh mn mdy mkd mfg mag mpo mwy)) mwa mre mpl mib msn mpn mlo mtl mke mim mhi mp0 mtk mki mun msd mbe ((k : Int)) (by omega)) rfl ok_X12_riseAt rfl rfl rfl rfl dX12_greatestRise_28 (fun r w1 hp => ?_)
          obtain ⟨rfl, rfl⟩ := hp
          show Wx X 0 0 (WM X.γ a mh mn mkd mfg mag mpo mwy mdy mhw mkk mkf mrs mrm mrw mth 0 (Ct.g (Lc mh mn mdy mkd mfg mag mpo mwy)) mwa mre mpl mib msn mpn mlo mtl mke mim mhi mp0 mtk mki mun msd mbe) 31 [(2, .int (iN ((k : Int)))), (1, .int (iN (v1_8))), (0, .ref (a 0))] [.int (iN ((Ct.g (Lc mh mn mdy mkd mfg mag mpo mwy)) ((k : Int) + 1) - (Ct.g (Lc mh mn mdy mkd mfg mag mpo mwy)) ((k : Int))))]
          have b22 := WFc.g (WFm.L hM mdy) ((k : Int))
          have b23 := WFc.g (WFm.L hM mdy) ((k : Int) + 1)
          refine x_S_I C (As := [.int (iN ((Ct.g (Lc mh mn mdy mkd mfg mag mpo mwy)) ((k : Int) + 1) - (Ct.g (Lc mh mn mdy mkd mfg mag mpo mwy)) ((k : Int))))]) (rest := []) 1 gX12_greatestRise_X12_plainly (c_X12_plainly _ _ (WM X.γ a mh mn mkd mfg mag mpo mwy mdy mhw mkk mkf mrs mrm mrw mth 0 (Ct.g (Lc mh mn mdy mkd mfg mag mpo mwy)) mwa mre mpl mib msn mpn mlo mtl mke mim mhi mp0 mtk mki mun msd mbe) ((Ct.g (Lc mh mn mdy mkd mfg mag mpo mwy)) ((k : Int) + 1) - (Ct.g (Lc mh mn mdy mkd mfg mag mpo mwy)) ((k : Int))) (by omega)) rfl ok_X12_plainly rfl rfl rfl rfl dX12_greatestRise_31 (fun r w1 hp => ?_)
          obtain ⟨rfl, rfl⟩ := hp
          show Wx X 0 0 (WM X.γ a mh mn mkd mfg mag mpo mwy mdy mhw mkk mkf mrs mrm mrw mth 0 (Ct.g (Lc mh mn mdy mkd mfg mag mpo mwy)) mwa mre mpl mib msn mpn mlo mtl mke mim mhi mp0 mtk mki mun msd mbe) 34 [(2, .int (iN ((k : Int)))), (1, .int (iN (v1_8))), (0, .ref (a 0))] [.int (iN (if ((Ct.g (Lc mh mn mdy mkd mfg mag mpo mwy)) ((k : Int) + 1) - (Ct.g (Lc mh mn mdy mkd mfg mag mpo mwy)) ((k : Int))) < 0 then - ((Ct.g (Lc mh mn mdy mkd mfg mag mpo mwy)) ((k : Int) + 1) - (Ct.g (Lc mh mn mdy mkd mfg mag mpo mwy)) ((k : Int))) else ((Ct.g (Lc mh mn mdy mkd mfg mag mpo mwy)) ((k : Int) + 1) - (Ct.g (Lc mh mn mdy mkd mfg mag mpo mwy)) ((k : Int)))))]
          refine x_goto C 38 (by decide) dX12_greatestRise_34 ?_
          exact LP38 _ (by have hs : Ct.s (Lc mh mn mdy mkd mfg mag mpo mwy) (k : Int) = azb (Ct.g (Lc mh mn mdy mkd mfg mag mpo mwy) ((k : Int) + 1) - Ct.g (Lc mh mn mdy mkd mfg mag mpo mwy) (k : Int)) := rfl; show _ = (if mxz (Ct.s (Lc mh mn mdy mkd mfg mag mpo mwy)) k < Ct.s (Lc mh mn mdy mkd mfg mag mpo mwy) (k : Int) then Ct.s (Lc mh mn mdy mkd mfg mag mpo mwy) (k : Int) else mxz (Ct.s (Lc mh mn mdy mkd mfg mag mpo mwy)) k); rw [hs]; simp only [azb]; omega)
  exact LP8 ((14 - (0)) + 1) (0) _ _ (by omega) (by omega) (by omega) (rfl)
theorem in_X12_couldGo_X12 : ∀ w ∈ u_ws RX12 TX12 34, w ∈ wsX12_couldGo := by decide +kernel
theorem ok_X12_couldGo : okY yX12_couldGo 2 := by decide +kernel
def rmX12_couldGo : Room := { frames := 3, cells := 0, slots := 0, locals := 67 }
set_option maxRecDepth 100000 in
set_option maxHeartbeats 400000 in
theorem c_X12_couldGo (l : Launch) (γ : GX) (a : Nat → Nat) (mh : Int → Int) (mn : Int) (mkd : Int → Int) (mfg : Int → Int) (mag : Int → Int) (mpo : Int → Int) (mwy : Int → Int) (mdy : Int) (mhw : Int → Int) (mkk : Int → Int) (mkf : Int → Int) (mrs : Int → Int) (mrm : Int → Int) (mrw : Int → Int) (mth : Int) (mgr : Int → Int) (mwa : Int → Int) (mre : Int) (mpl : Int) (mib : Int) (msn : Int) (mpn : Int → Int) (mlo : Int → Int) (mtl : Int → Int) (mke : Int → Int) (mim : Int → Int) (mhi : Int) (mp0 : Int) (mtk : Int) (mki : Value) (mun : Int → Int) (msd : Int) (mbe : Int → Int) (hM : WFm mn mh mkd mfg mag mpo mwy mhw mkk mkf mrs mrm mrw) (i : Int) (b : Int) (h0_ : 0 ≤ i ∧ i < 6) (h1_ : -1 ≤ b ∧ b ≤ 1) : MI l γ yX12_couldGo wsX12_couldGo rmX12_couldGo [.ref (a 0), .int (iN (i)), .int (iN (b))] (WM γ a mh mn mkd mfg mag mpo mwy mdy mhw mkk mkf mrs mrm mrw mth 0 mgr mwa mre mpl mib msn mpn mlo mtl mke mim mhi mp0 mtk mki mun msd mbe) (fun r_ w_ => r_ = (bz (Ct.mg (Lc mh mn mdy mkd mfg mag mpo mwy) i b)) ∧ w_ = (WM γ a mh mn mkd mfg mag mpo mwy mdy mhw mkk mkf mrs mrm mrw mth 0 (Ct.g (Lc mh mn mdy mkd mfg mag mpo mwy)) mwa mre mpl mib msn mpn mlo mtl mke mim mhi mp0 mtk mki mun msd mbe)) 0 0 := by
  refine MI.of (cc := cX12_couldGo) (maxL := 4) (rt := .boolean) RX12 rfl (by decide +kernel) rfl (Nat.le_of_ble_eq_true rfl) ?_
  intro X C hγ hl hnm hret
  subst hγ
  have hMn := WFm.n hM
  show Wx X 0 0 (WM X.γ a mh mn mkd mfg mag mpo mwy mdy mhw mkk mkf mrs mrm mrw mth 0 mgr mwa mre mpl mib msn mpn mlo mtl mke mim mhi mp0 mtk mki mun msd mbe) 0 [(0, .ref (a 0)), (1, .int (iN (i))), (2, .int (iN (b)))] []
  refine x_aload_n C 0 rfl rfl dX12_couldGo_0 ?_
  refine x_get C in_X12_couldGo_X12 0 rfl rfl 5 (by decide) (List.mem_of_getElem? (i := 1) rfl) rfl (v := .ref (a 5)) rfl dX12_couldGo_1 ?_
  refine x_iload_n C 1 rfl rfl dX12_couldGo_4 ?_
  refine x_iaload C (f := mpo) 5 rfl (by omega) rfl dX12_couldGo_5 ?_
  have b24 := WFm.po hM (i)
  refine x_iload_n C 2 rfl rfl dX12_couldGo_6 ?_
  refine x_iadd C dX12_couldGo_7 ?_
  refine x_istore_n C [(3, .int (iN ((mpo i) + b))), (0, .ref (a 0)), (1, .int (iN (i))), (2, .int (iN (b)))] rfl (by decide) rfl dX12_couldGo_8 ?_
  refine x_aload_n C 1 rfl rfl dX12_couldGo_9 ?_
  refine x_V_V C (As := []) (rest := []) 0 0 rfl rfl gX12_couldGo_X12_layGround rfl (c_X12_layGround0 _ _ a mh mn mkd mfg mag mpo mwy mdy mhw mkk mkf mrs mrm mrw mth mgr mwa mre mpl mib msn mpn mlo mtl mke mim mhi mp0 mtk mki mun msd mbe hM) rfl ok_X12_layGround rfl rfl rfl rfl dX12_couldGo_10 (fun w1 hp => ?_)
  obtain rfl := hp
  refine x_iload_n C 0 rfl rfl dX12_couldGo_13 ?_
  refine x_S_I C (As := [.int (iN ((mpo i) + b))]) (rest := []) 1 gX12_couldGo_X12_isCell (c_X12_isCell _ _ (WM X.γ a mh mn mkd mfg mag mpo mwy mdy mhw mkk mkf mrs mrm mrw mth 0 (Ct.g (Lc mh mn mdy mkd mfg mag mpo mwy)) mwa mre mpl mib msn mpn mlo mtl mke mim mhi mp0 mtk mki mun msd mbe) ((mpo i) + b) (by omega)) rfl ok_X12_isCell rfl rfl rfl rfl dX12_couldGo_14 (fun r w1 hp => ?_)
  obtain ⟨rfl, rfl⟩ := hp
  refine x_ifeq_bz C 50 (by decide) dX12_couldGo_17 (fun c_17 => ?_) (fun c_17 => ?_)
  · refine x_iconst (v := 0) C dX12_couldGo_50 ?_
    exact hret _ _ _ _ dX12_couldGo_51 (nar_z (by decide)) ⟨(bz_f (by first | exact fun z => c_17 z.1 | exact fun z => absurd (show Ct.g (Lc mh mn mdy mkd mfg mag mpo mwy) (mpo i + b) - Ct.g (Lc mh mn mdy mkd mfg mag mpo mwy) (mpo i) ≤ srL mkd mfg i from z.2) (by omega))).symm, rfl⟩
  · refine x_aload_n C 1 rfl rfl dX12_couldGo_20 ?_
    refine x_get C in_X12_couldGo_X12 0 rfl rfl 16 (by decide) (List.mem_of_getElem? (i := 2) rfl) rfl (v := .ref (a 13)) rfl dX12_couldGo_21 ?_
    refine x_iload_n C 0 rfl rfl dX12_couldGo_24 ?_
    refine x_iaload C (f := (Ct.g (Lc mh mn mdy mkd mfg mag mpo mwy))) 13 rfl (by omega) rfl dX12_couldGo_25 ?_
    have b25 := WFc.g (WFm.L hM mdy) ((mpo i) + b)
    refine x_aload_n C 1 rfl rfl dX12_couldGo_26 ?_
    refine x_get C in_X12_couldGo_X12 0 rfl rfl 16 (by decide) (List.mem_of_getElem? (i := 2) rfl) rfl (v := .ref (a 13)) rfl dX12_couldGo_27 ?_
    refine x_aload_n C 1 rfl rfl dX12_couldGo_30 ?_
    refine x_get C in_X12_couldGo_X12 0 rfl rfl 5 (by decide) (List.mem_of_getElem? (i := 1) rfl) rfl (v := .ref (a 5)) rfl dX12_couldGo_31 ?_
    refine x_iload_n C 2 rfl rfl dX12_couldGo_34 ?_
    refine x_iaload C (f := mpo) 5 rfl (by omega) rfl dX12_couldGo_35 ?_
    have b26 := WFm.po hM (i)
    refine x_iaload C (f := (Ct.g (Lc mh mn mdy mkd mfg mag mpo mwy))) 13 rfl (by omega) rfl dX12_couldGo_36 ?_
    have b27 := WFc.g (WFm.L hM mdy) (mpo i)
    refine x_aload_n C 1 rfl rfl dX12_couldGo_37 ?_
    refine x_iload_n C 2 rfl rfl dX12_couldGo_38 ?_
    refine x_V_I C (As := [.int (iN (i))]) (rest := [.int (iN ((Ct.g (Lc mh mn mdy mkd mfg mag mpo mwy)) (mpo i))), .int (iN ((Ct.g (Lc mh mn mdy mkd mfg mag mpo mwy)) ((mpo i) + b)))]) 1 0 rfl rfl gX12_couldGo_X12_strideOf rfl (c_X12_strideOf _ _ a mh mn mkd mfg mag mpo mwy mdy mhw mkk mkf mrs mrm mrw mth 0 (Ct.g (Lc mh mn mdy mkd mfg mag mpo mwy)) mwa mre mpl mib msn mpn mlo mtl mke mim mhi mp0 mtk mki mun msd mbe hM (i) (by omega)) rfl ok_X12_strideOf rfl rfl rfl rfl dX12_couldGo_39 (fun r w1 hp => ?_)
    obtain ⟨rfl, rfl⟩ := hp
    show Wx X 0 0 (WM X.γ a mh mn mkd mfg mag mpo mwy mdy mhw mkk mkf mrs mrm mrw mth 0 (Ct.g (Lc mh mn mdy mkd mfg mag mpo mwy)) mwa mre mpl mib msn mpn mlo mtl mke mim mhi mp0 mtk mki mun msd mbe) 42 [(3, .int (iN ((mpo i) + b))), (0, .ref (a 0)), (1, .int (iN (i))), (2, .int (iN (b)))] [.int (iN (srL mkd mfg i)), .int (iN ((Ct.g (Lc mh mn mdy mkd mfg mag mpo mwy)) (mpo i))), .int (iN ((Ct.g (Lc mh mn mdy mkd mfg mag mpo mwy)) ((mpo i) + b)))]
    have b28 := WFm.sr hM i
    refine x_iadd C dX12_couldGo_42 ?_
    refine x_icmp_gt C 50 (by decide) (by omega) dX12_couldGo_43 (fun c_43 => ?_) (fun c_43 => ?_)
    · refine x_iconst (v := 0) C dX12_couldGo_50 ?_
      exact hret _ _ _ _ dX12_couldGo_51 (nar_z (by decide)) ⟨(bz_f (by first | exact fun z => c_17 z.1 | exact fun z => absurd (show Ct.g (Lc mh mn mdy mkd mfg mag mpo mwy) (mpo i + b) - Ct.g (Lc mh mn mdy mkd mfg mag mpo mwy) (mpo i) ≤ srL mkd mfg i from z.2) (by omega))).symm, rfl⟩
    · refine x_iconst (v := 0) C dX12_couldGo_46 ?_
      refine x_goto C 51 (by decide) dX12_couldGo_47 ?_
      exact hret _ _ _ _ dX12_couldGo_51 (nar_z (by decide)) ⟨(bz_t ⟨c_17, (show Ct.g (Lc mh mn mdy mkd mfg mag mpo mwy) (mpo i + b) - Ct.g (Lc mh mn mdy mkd mfg mag mpo mwy) (mpo i) ≤ srL mkd mfg i by omega)⟩).symm, rfl⟩
theorem in_X12_allWater_X12 : ∀ w ∈ u_ws RX12 TX12 34, w ∈ wsX12_allWater := by decide +kernel
theorem ok_X12_allWater : okY yX12_allWater 0 := by decide +kernel
def rmX12_allWater : Room := { frames := 3, cells := 0, slots := 0, locals := 67 }
set_option maxRecDepth 100000 in
set_option maxHeartbeats 400000 in
theorem c_X12_allWater (l : Launch) (γ : GX) (a : Nat → Nat) (mh : Int → Int) (mn : Int) (mkd : Int → Int) (mfg : Int → Int) (mag : Int → Int) (mpo : Int → Int) (mwy : Int → Int) (mdy : Int) (mhw : Int → Int) (mkk : Int → Int) (mkf : Int → Int) (mrs : Int → Int) (mrm : Int → Int) (mrw : Int → Int) (mth : Int) (maw : Int) (mgr : Int → Int) (mwa : Int → Int) (mre : Int) (mpl : Int) (mib : Int) (msn : Int) (mpn : Int → Int) (mlo : Int → Int) (mtl : Int → Int) (mke : Int → Int) (mim : Int → Int) (mhi : Int) (mp0 : Int) (mtk : Int) (mki : Value) (mun : Int → Int) (msd : Int) (mbe : Int → Int) (hA : 0 ≤ maw ∧ maw < 64) (hM : WFm mn mh mkd mfg mag mpo mwy mhw mkk mkf mrs mrm mrw) : MI l γ yX12_allWater wsX12_allWater rmX12_allWater [.ref (a 0)] (WM γ a mh mn mkd mfg mag mpo mwy mdy mhw mkk mkf mrs mrm mrw mth maw mgr mwa mre mpl mib msn mpn mlo mtl mke mim mhi mp0 mtk mki mun msd mbe) (fun r_ w_ => r_ = Ct.allW (La mh mn mdy mkd mfg mag mpo mwy maw) ∧ w_ = (WM γ a mh mn mkd mfg mag mpo mwy mdy mhw mkk mkf mrs mrm mrw mth maw (Ct.g (La mh mn mdy mkd mfg mag mpo mwy maw)) (Ct.w (La mh mn mdy mkd mfg mag mpo mwy maw)) mre mpl mib msn mpn mlo mtl mke mim mhi mp0 mtk mki mun msd mbe)) 0 0 := by
  refine MI.of (cc := cX12_allWater) (maxL := 6) (rt := .int) RX12 rfl (by decide +kernel) rfl (Nat.le_of_ble_eq_true rfl) ?_
  intro X C hγ hl hnm hret
  subst hγ
  have hMn := WFm.n hM
  show Wx X 0 0 (WM X.γ a mh mn mkd mfg mag mpo mwy mdy mhw mkk mkf mrs mrm mrw mth maw mgr mwa mre mpl mib msn mpn mlo mtl mke mim mhi mp0 mtk mki mun msd mbe) 0 [(0, .ref (a 0))] []
  refine x_aload_n C 0 rfl rfl dX12_allWater_0 ?_
  refine x_V_V C (As := []) (rest := []) 0 0 rfl rfl gX12_allWater_X12_layGround rfl (c_X12_layGround _ _ a mh mn mkd mfg mag mpo mwy mdy mhw mkk mkf mrs mrm mrw mth maw mgr mwa mre mpl mib msn mpn mlo mtl mke mim mhi mp0 mtk mki mun msd mbe hA hM) rfl ok_X12_layGround rfl rfl rfl rfl dX12_allWater_1 (fun w1 hp => ?_)
  obtain rfl := hp
  refine x_iconst (v := 0) C dX12_allWater_4 ?_
  refine x_istore_n C [(1, .int (iN (0))), (0, .ref (a 0))] rfl (by decide) rfl dX12_allWater_5 ?_
  refine x_iconst (v := 0) C dX12_allWater_6 ?_
  refine x_istore_n C [(2, .int (iN (0))), (1, .int (iN (0))), (0, .ref (a 0))] rfl (by decide) rfl dX12_allWater_7 ?_
  have LP8 : ∀ (f : Nat) (c : Nat) (G : Int → Int) (v2_8 : Int) (v1_8 : Int), (15 - c < f) → (c ≤ 15) → (∀ j : Int, 0 ≤ j → j < (c : Int) → G j = Ct.w (La mh mn mdy mkd mfg mag mpo mwy maw) j) → (((c : Int)) = v2_8) → (v1_8 = (sumz (Ct.w (La mh mn mdy mkd mfg mag mpo mwy maw)) c)) → Wx X 0 0 (WM X.γ a mh mn mkd mfg mag mpo mwy mdy mhw mkk mkf mrs mrm mrw mth maw (Ct.g (La mh mn mdy mkd mfg mag mpo mwy maw)) G mre mpl mib msn mpn mlo mtl mke mim mhi mp0 mtk mki mun msd mbe) 8 [(2, .int (iN (v2_8))), (1, .int (iN (v1_8))), (0, .ref (a 0))] [] := by
    intro f
    induction f with
    | zero => intro c G v2_8 v1_8 hf; exact absurd hf (Nat.not_lt_zero _)
    | succ f ih8 =>
      intro c G v2_8 v1_8 hf hc hG e2_8 e1_8
      subst e2_8
      refine x_iload_n C 0 rfl rfl dX12_allWater_8 ?_
      refine x_bipush C (15) (by decide) dX12_allWater_9 ?_
      refine x_icmp_ge C 157 (by decide) (by omega) dX12_allWater_11 (fun c_11 => ?_) (fun c_11 => ?_)
      · refine x_canonI (f := G) (g := Ct.w (La mh mn mdy mkd mfg mag mpo mwy maw)) 14 rfl (fun i h1 h2 => hG i h1 (by omega)) (WM X.γ a mh mn mkd mfg mag mpo mwy mdy mhw mkk mkf mrs mrm mrw mth maw (Ct.g (La mh mn mdy mkd mfg mag mpo mwy maw)) (Ct.w (La mh mn mdy mkd mfg mag mpo mwy maw)) mre mpl mib msn mpn mlo mtl mke mim mhi mp0 mtk mki mun msd mbe) rfl ?_
        refine x_iload_n C 1 rfl rfl dX12_allWater_157 ?_
        exact hret _ _ _ _ dX12_allWater_158 rfl ⟨(by have hz : c = 15 := (by omega); subst hz; exact e1_8), rfl⟩
      · refine x_iconst (v := 0) C dX12_allWater_14 ?_
        refine x_istore_n C [(3, .int (iN (0))), (2, .int (iN ((c : Int)))), (1, .int (iN (v1_8))), (0, .ref (a 0))] rfl (by decide) rfl dX12_allWater_15 ?_
        refine x_iconst (v := 0) C dX12_allWater_16 ?_
        refine x_istore C [(4, .int (iN (0))), (3, .int (iN (0))), (2, .int (iN ((c : Int)))), (1, .int (iN (v1_8))), (0, .ref (a 0))] (by decide) rfl dX12_allWater_17 ?_
        refine x_iconst (v := 0) C dX12_allWater_19 ?_
        refine x_istore C [(5, .int (iN (0))), (4, .int (iN (0))), (3, .int (iN (0))), (2, .int (iN ((c : Int)))), (1, .int (iN (v1_8))), (0, .ref (a 0))] (by decide) rfl dX12_allWater_20 ?_
        have LP22 : ∀ (f : Nat) (k : Nat) (v5_22 : Int) (v4_22 : Int) (v3_22 : Int), (15 - k < f) → (k ≤ 15) → (((k : Int)) = v5_22) → (v4_22 = (rgz (Ct.g (La mh mn mdy mkd mfg mag mpo mwy maw)) c k)) → (v3_22 = (lmx (Ct.g (La mh mn mdy mkd mfg mag mpo mwy maw)) (min k c))) → Wx X 0 0 (WM X.γ a mh mn mkd mfg mag mpo mwy mdy mhw mkk mkf mrs mrm mrw mth maw (Ct.g (La mh mn mdy mkd mfg mag mpo mwy maw)) G mre mpl mib msn mpn mlo mtl mke mim mhi mp0 mtk mki mun msd mbe) 22 [(5, .int (iN (v5_22))), (4, .int (iN (v4_22))), (3, .int (iN (v3_22))), (2, .int (iN ((c : Int)))), (1, .int (iN (v1_8))), (0, .ref (a 0))] [] := by
          intro f
          induction f with
          | zero => intro k v5_22 v4_22 v3_22 hf; exact absurd hf (Nat.not_lt_zero _)
          | succ f ih22 =>
            intro k v5_22 v4_22 v3_22 hf hk e5_22 e4_22 e3_22
            subst e5_22
            have bl := lmx_b (WFc.g (WFm.La hM mdy maw)) (min k c)
            have br := rgz_b (WFc.g (WFm.La hM mdy maw)) c k
            refine x_iload C 0 rfl dX12_allWater_22 ?_
            refine x_bipush C (15) (by decide) dX12_allWater_24 ?_
            refine x_icmp_ge C 96 (by decide) (by omega) dX12_allWater_26 (fun c_26 => ?_) (fun c_26 => ?_)
            · have hz : k = 15 := by omega
              have e3b : v3_22 = lmx (Ct.g (La mh mn mdy mkd mfg mag mpo mwy maw)) c := by rw [e3_22, hz, Nat.min_eq_right (by omega)]
              have e4b : v4_22 = rmx (Ct.g (La mh mn mdy mkd mfg mag mpo mwy maw)) (14 - c) := by
                have e := rgz_rmx (WFc.g (WFm.La hM mdy maw)) (14 - c) (by omega)
                rw [show 14 - (14 - c) = c by omega] at e
                rw [e4_22, hz, e]
              refine x_iload_n C 2 rfl rfl dX12_allWater_96 ?_
              refine x_iload C 1 rfl dX12_allWater_97 ?_
              have LP108 : ∀ (s0_108 : Int), (s0_108 = (min (lmx (Ct.g (La mh mn mdy mkd mfg mag mpo mwy maw)) c) (rmx (Ct.g (La mh mn mdy mkd mfg mag mpo mwy maw)) (14 - c)))) → Wx X 0 0 (WM X.γ a mh mn mkd mfg mag mpo mwy mdy mhw mkk mkf mrs mrm mrw mth maw (Ct.g (La mh mn mdy mkd mfg mag mpo mwy maw)) G mre mpl mib msn mpn mlo mtl mke mim mhi mp0 mtk mki mun msd mbe) 108 [(5, .int (iN ((k : Int)))), (4, .int (iN (v4_22))), (3, .int (iN (v3_22))), (2, .int (iN ((c : Int)))), (1, .int (iN (v1_8))), (0, .ref (a 0))] [.int (iN (s0_108))] := by
                intro s0_108 es0_108
                refine x_istore C [(5, .int (iN (s0_108))), (4, .int (iN (v4_22))), (3, .int (iN (v3_22))), (2, .int (iN ((c : Int)))), (1, .int (iN (v1_8))), (0, .ref (a 0))] (by decide) rfl dX12_allWater_108 ?_
                refine x_aload_n C 5 rfl rfl dX12_allWater_110 ?_
                have ew := w_at (La mh mn mdy mkd mfg mag mpo mwy maw) c (by omega)
                have bl2 := lmx_b (WFc.g (WFm.La hM mdy maw)) c
                have br2 := rmx_b (WFc.g (WFm.La hM mdy maw)) (14 - c)
                have bg2 := WFc.g (WFm.La hM mdy maw) (c : Int)
                refine x_get C in_X12_allWater_X12 0 rfl rfl 17 (by decide) (List.mem_of_getElem? (i := 2) rfl) rfl (v := .ref (a 14)) rfl dX12_allWater_111 ?_
                refine x_iload_n C 3 rfl rfl dX12_allWater_114 ?_
                refine x_iload_n C 3 rfl rfl dX12_allWater_115 ?_
                have LP141 : ∀ (s0_141 : Int), (s0_141 = (Ct.w (La mh mn mdy mkd mfg mag mpo mwy maw) (c : Int))) → Wx X 0 0 (WM X.γ a mh mn mkd mfg mag mpo mwy mdy mhw mkk mkf mrs mrm mrw mth maw (Ct.g (La mh mn mdy mkd mfg mag mpo mwy maw)) G mre mpl mib msn mpn mlo mtl mke mim mhi mp0 mtk mki mun msd mbe) 141 [(5, .int (iN (s0_108))), (4, .int (iN (v4_22))), (3, .int (iN (v3_22))), (2, .int (iN ((c : Int)))), (1, .int (iN (v1_8))), (0, .ref (a 0))] [.int (iN (s0_141)), .int (iN ((c : Int))), .ref (a 14)] := by
                  intro s0_141 es0_141
                  have bw := WFc.w (WFm.La hM mdy maw) (c : Int)
                  refine x_iastore C (f := G) 14 rfl (by omega) rfl (WM X.γ a mh mn mkd mfg mag mpo mwy mdy mhw mkk mkf mrs mrm mrw mth maw (Ct.g (La mh mn mdy mkd mfg mag mpo mwy maw)) (upz G (c : Int) s0_141) mre mpl mib msn mpn mlo mtl mke mim mhi mp0 mtk mki mun msd mbe) rfl dX12_allWater_141 ?_
                  refine x_iload_n C 4 rfl rfl dX12_allWater_142 ?_
                  refine x_aload_n C 5 rfl rfl dX12_allWater_143 ?_
                  refine x_get C in_X12_allWater_X12 0 rfl rfl 17 (by decide) (List.mem_of_getElem? (i := 2) rfl) rfl (v := .ref (a 14)) rfl dX12_allWater_144 ?_
                  refine x_iload_n C 3 rfl rfl dX12_allWater_147 ?_
                  refine x_iaload C (f := (upz G (c : Int) s0_141)) 14 rfl (by omega) rfl dX12_allWater_148 ?_
                  rw [upz_s]
                  refine x_iadd C dX12_allWater_149 ?_
                  refine x_istore_n C [(1, .int (iN (v1_8 + s0_141))), (5, .int (iN (s0_108))), (4, .int (iN (v4_22))), (3, .int (iN (v3_22))), (2, .int (iN ((c : Int)))), (0, .ref (a 0))] rfl (by decide) rfl dX12_allWater_150 ?_
                  refine x_iinc C 4 [(2, .int (iN ((c : Int) + 1))), (1, .int (iN (v1_8 + s0_141))), (5, .int (iN (s0_108))), (4, .int (iN (v4_22))), (3, .int (iN (v3_22))), (0, .ref (a 0))] rfl rfl (by decide) rfl dX12_allWater_151 ?_
                  refine x_goto C 8 (by decide) dX12_allWater_154 ?_
                  refine Wx.subL [0, 1, 5] rfl ?_
                  exact ih8 (c + 1) (upz G (c : Int) s0_141) _ _ (by omega) (by omega) (fun j h1 h2 => upz_up hG es0_141 j h1 (by omega)) (by omega) (by simp only [sumz]; rw [e1_8, es0_141])
                refine x_if_eq C 125 (by decide) (by omega) dX12_allWater_116 (fun c_116 => ?_) (fun c_116 => ?_)
                · refine x_iconst (v := 0) C dX12_allWater_125 ?_
                  refine x_goto C 141 (by decide) dX12_allWater_126 ?_
                  exact LP141 _ (by have hc0 : c = 0 := (by omega); have hz : lmx (Ct.g (La mh mn mdy mkd mfg mag mpo mwy maw)) c = 0 := (by rw [hc0]; rfl); rw [ew]; omega)
                · refine x_iload_n C 3 rfl rfl dX12_allWater_119 ?_
                  refine x_bipush C (14) (by decide) dX12_allWater_120 ?_
                  refine x_icmp_ne C 129 (by decide) (by omega) dX12_allWater_122 (fun c_122 => ?_) (fun c_122 => ?_)
                  · refine x_iload C 0 rfl dX12_allWater_129 ?_
                    refine x_aload_n C 5 rfl rfl dX12_allWater_131 ?_
                    refine x_get C in_X12_allWater_X12 0 rfl rfl 16 (by decide) (List.mem_of_getElem? (i := 1) rfl) rfl (v := .ref (a 13)) rfl dX12_allWater_132 ?_
                    refine x_iload_n C 3 rfl rfl dX12_allWater_135 ?_
                    refine x_iaload C (f := (Ct.g (La mh mn mdy mkd mfg mag mpo mwy maw))) 13 rfl (by omega) rfl dX12_allWater_136 ?_
                    have b29 := WFc.g (WFm.La hM mdy maw) ((c : Int))
                    refine x_isub C dX12_allWater_137 ?_
                    refine x_S_I C (As := [.int (iN (s0_108 - ((Ct.g (La mh mn mdy mkd mfg mag mpo mwy maw)) (c : Int))))]) (rest := [.int (iN ((c : Int))), .ref (a 14)]) 1 gX12_allWater_X12_above (c_X12_above _ _ (WM X.γ a mh mn mkd mfg mag mpo mwy mdy mhw mkk mkf mrs mrm mrw mth maw (Ct.g (La mh mn mdy mkd mfg mag mpo mwy maw)) G mre mpl mib msn mpn mlo mtl mke mim mhi mp0 mtk mki mun msd mbe) (s0_108 - ((Ct.g (La mh mn mdy mkd mfg mag mpo mwy maw)) (c : Int))) (by omega)) rfl ok_X12_above rfl rfl rfl rfl dX12_allWater_138 (fun r w1 hp => ?_)
                    obtain ⟨rfl, rfl⟩ := hp
                    show Wx X 0 0 (WM X.γ a mh mn mkd mfg mag mpo mwy mdy mhw mkk mkf mrs mrm mrw mth maw (Ct.g (La mh mn mdy mkd mfg mag mpo mwy maw)) G mre mpl mib msn mpn mlo mtl mke mim mhi mp0 mtk mki mun msd mbe) 141 [(5, .int (iN (s0_108))), (4, .int (iN (v4_22))), (3, .int (iN (v3_22))), (2, .int (iN ((c : Int)))), (1, .int (iN (v1_8))), (0, .ref (a 0))] [.int (iN (if (s0_108 - ((Ct.g (La mh mn mdy mkd mfg mag mpo mwy maw)) (c : Int))) < 0 then 0 else (s0_108 - ((Ct.g (La mh mn mdy mkd mfg mag mpo mwy maw)) (c : Int))))), .int (iN ((c : Int))), .ref (a 14)]
                    exact LP141 _ (by rw [ew]; omega)
                  · refine x_iconst (v := 0) C dX12_allWater_125 ?_
                    refine x_goto C 141 (by decide) dX12_allWater_126 ?_
                    exact LP141 _ (by have hc0 : c = 14 := (by omega); have hz : rmx (Ct.g (La mh mn mdy mkd mfg mag mpo mwy maw)) (14 - c) = 0 := (by rw [hc0]; rfl); rw [ew]; omega)
              refine x_icmp_ge C 106 (by decide) (by omega) dX12_allWater_99 (fun c_99 => ?_) (fun c_99 => ?_)
              · refine x_iload C 1 rfl dX12_allWater_106 ?_
                exact LP108 _ (by omega)
              · refine x_iload_n C 2 rfl rfl dX12_allWater_102 ?_
                refine x_goto C 108 (by decide) dX12_allWater_103 ?_
                exact LP108 _ (by omega)
            · refine x_iload C 0 rfl dX12_allWater_29 ?_
              refine x_iload_n C 3 rfl rfl dX12_allWater_31 ?_
              have LP57 : ∀ (s0_57 : Int), (s0_57 = (lmx (Ct.g (La mh mn mdy mkd mfg mag mpo mwy maw)) (min (k + 1) c))) → Wx X 0 0 (WM X.γ a mh mn mkd mfg mag mpo mwy mdy mhw mkk mkf mrs mrm mrw mth maw (Ct.g (La mh mn mdy mkd mfg mag mpo mwy maw)) G mre mpl mib msn mpn mlo mtl mke mim mhi mp0 mtk mki mun msd mbe) 57 [(5, .int (iN ((k : Int)))), (4, .int (iN (v4_22))), (3, .int (iN (v3_22))), (2, .int (iN ((c : Int)))), (1, .int (iN (v1_8))), (0, .ref (a 0))] [.int (iN (s0_57))] := by
                intro s0_57 es0_57
                refine x_istore_n C [(3, .int (iN (s0_57))), (5, .int (iN ((k : Int)))), (4, .int (iN (v4_22))), (2, .int (iN ((c : Int)))), (1, .int (iN (v1_8))), (0, .ref (a 0))] rfl (by decide) rfl dX12_allWater_57 ?_
                refine x_iload C 1 rfl dX12_allWater_58 ?_
                refine x_iload_n C 3 rfl rfl dX12_allWater_60 ?_
                have LP88 : ∀ (s0_88 : Int), (s0_88 = (rgz (Ct.g (La mh mn mdy mkd mfg mag mpo mwy maw)) c (k + 1))) → Wx X 0 0 (WM X.γ a mh mn mkd mfg mag mpo mwy mdy mhw mkk mkf mrs mrm mrw mth maw (Ct.g (La mh mn mdy mkd mfg mag mpo mwy maw)) G mre mpl mib msn mpn mlo mtl mke mim mhi mp0 mtk mki mun msd mbe) 88 [(3, .int (iN (s0_57))), (5, .int (iN ((k : Int)))), (4, .int (iN (v4_22))), (2, .int (iN ((c : Int)))), (1, .int (iN (v1_8))), (0, .ref (a 0))] [.int (iN (s0_88))] := by
                  intro s0_88 es0_88
                  refine x_istore C [(4, .int (iN (s0_88))), (3, .int (iN (s0_57))), (5, .int (iN ((k : Int)))), (2, .int (iN ((c : Int)))), (1, .int (iN (v1_8))), (0, .ref (a 0))] (by decide) rfl dX12_allWater_88 ?_
                  refine x_iinc C 2 [(5, .int (iN ((k : Int) + 1))), (4, .int (iN (s0_88))), (3, .int (iN (s0_57))), (2, .int (iN ((c : Int)))), (1, .int (iN (v1_8))), (0, .ref (a 0))] rfl rfl (by decide) rfl dX12_allWater_90 ?_
                  refine x_goto C 22 (by decide) dX12_allWater_93 ?_
                  exact ih22 (k + 1) _ _ _ (by omega) (by omega) (by omega) (es0_88) (es0_57)
                refine x_icmp_le C 86 (by decide) (by omega) dX12_allWater_61 (fun c_61 => ?_) (fun c_61 => ?_)
                · refine x_iload C 2 rfl dX12_allWater_86 ?_
                  exact LP88 _ (by simp only [rgz]; omega)
                · refine x_aload_n C 5 rfl rfl dX12_allWater_64 ?_
                  refine x_get C in_X12_allWater_X12 0 rfl rfl 16 (by decide) (List.mem_of_getElem? (i := 1) rfl) rfl (v := .ref (a 13)) rfl dX12_allWater_65 ?_
                  refine x_iload C 1 rfl dX12_allWater_68 ?_
                  refine x_iaload C (f := (Ct.g (La mh mn mdy mkd mfg mag mpo mwy maw))) 13 rfl (by omega) rfl dX12_allWater_70 ?_
                  have b30 := WFc.g (WFm.La hM mdy maw) ((k : Int))
                  refine x_iload C 2 rfl dX12_allWater_71 ?_
                  refine x_icmp_le C 86 (by decide) (by omega) dX12_allWater_73 (fun c_73 => ?_) (fun c_73 => ?_)
                  · refine x_iload C 2 rfl dX12_allWater_86 ?_
                    exact LP88 _ (by simp only [rgz]; omega)
                  · refine x_aload_n C 5 rfl rfl dX12_allWater_76 ?_
                    refine x_get C in_X12_allWater_X12 0 rfl rfl 16 (by decide) (List.mem_of_getElem? (i := 1) rfl) rfl (v := .ref (a 13)) rfl dX12_allWater_77 ?_
                    refine x_iload C 1 rfl dX12_allWater_80 ?_
                    refine x_iaload C (f := (Ct.g (La mh mn mdy mkd mfg mag mpo mwy maw))) 13 rfl (by omega) rfl dX12_allWater_82 ?_
                    have b31 := WFc.g (WFm.La hM mdy maw) ((k : Int))
                    refine x_goto C 88 (by decide) dX12_allWater_83 ?_
                    exact LP88 _ (by simp only [rgz]; omega)
              refine x_icmp_ge C 56 (by decide) (by omega) dX12_allWater_32 (fun c_32 => ?_) (fun c_32 => ?_)
              · refine x_iload_n C 2 rfl rfl dX12_allWater_56 ?_
                exact LP57 _ (by rw [lmx_min]; omega)
              · refine x_aload_n C 5 rfl rfl dX12_allWater_35 ?_
                refine x_get C in_X12_allWater_X12 0 rfl rfl 16 (by decide) (List.mem_of_getElem? (i := 1) rfl) rfl (v := .ref (a 13)) rfl dX12_allWater_36 ?_
                refine x_iload C 0 rfl dX12_allWater_39 ?_
                refine x_iaload C (f := (Ct.g (La mh mn mdy mkd mfg mag mpo mwy maw))) 13 rfl (by omega) rfl dX12_allWater_41 ?_
                have b32 := WFc.g (WFm.La hM mdy maw) ((k : Int))
                refine x_iload_n C 2 rfl rfl dX12_allWater_42 ?_
                refine x_icmp_le C 56 (by decide) (by omega) dX12_allWater_43 (fun c_43 => ?_) (fun c_43 => ?_)
                · refine x_iload_n C 2 rfl rfl dX12_allWater_56 ?_
                  exact LP57 _ (by rw [lmx_min]; omega)
                · refine x_aload_n C 5 rfl rfl dX12_allWater_46 ?_
                  refine x_get C in_X12_allWater_X12 0 rfl rfl 16 (by decide) (List.mem_of_getElem? (i := 1) rfl) rfl (v := .ref (a 13)) rfl dX12_allWater_47 ?_
                  refine x_iload C 0 rfl dX12_allWater_50 ?_
                  refine x_iaload C (f := (Ct.g (La mh mn mdy mkd mfg mag mpo mwy maw))) 13 rfl (by omega) rfl dX12_allWater_52 ?_
                  have b33 := WFc.g (WFm.La hM mdy maw) ((k : Int))
                  refine x_goto C 57 (by decide) dX12_allWater_53 ?_
                  exact LP57 _ (by rw [lmx_min]; omega)
        exact LP22 ((15 - (0)) + 1) (0) _ _ _ (by omega) (by omega) (by omega) (rfl) (by rw [Nat.min_eq_left (by omega)]; rfl)
  exact LP8 ((15 - (0)) + 1) (0) (mwa) _ _ (by omega) (by omega) (fun j h1 h2 => by omega) (by omega) (rfl)
theorem c_X12_allWater0 (l : Launch) (γ : GX) (a : Nat → Nat) (mh : Int → Int) (mn : Int) (mkd : Int → Int) (mfg : Int → Int) (mag : Int → Int) (mpo : Int → Int) (mwy : Int → Int) (mdy : Int) (mhw : Int → Int) (mkk : Int → Int) (mkf : Int → Int) (mrs : Int → Int) (mrm : Int → Int) (mrw : Int → Int) (mth : Int) (mgr : Int → Int) (mwa : Int → Int) (mre : Int) (mpl : Int) (mib : Int) (msn : Int) (mpn : Int → Int) (mlo : Int → Int) (mtl : Int → Int) (mke : Int → Int) (mim : Int → Int) (mhi : Int) (mp0 : Int) (mtk : Int) (mki : Value) (mun : Int → Int) (msd : Int) (mbe : Int → Int) (hM : WFm mn mh mkd mfg mag mpo mwy mhw mkk mkf mrs mrm mrw) : MI l γ yX12_allWater wsX12_allWater rmX12_allWater [.ref (a 0)] (WM γ a mh mn mkd mfg mag mpo mwy mdy mhw mkk mkf mrs mrm mrw mth 0 mgr mwa mre mpl mib msn mpn mlo mtl mke mim mhi mp0 mtk mki mun msd mbe) (fun r_ w_ => r_ = Ct.allW (Lc mh mn mdy mkd mfg mag mpo mwy) ∧ w_ = WM γ a mh mn mkd mfg mag mpo mwy mdy mhw mkk mkf mrs mrm mrw mth 0 (Ct.g (Lc mh mn mdy mkd mfg mag mpo mwy)) (Ct.w (Lc mh mn mdy mkd mfg mag mpo mwy)) mre mpl mib msn mpn mlo mtl mke mim mhi mp0 mtk mki mun msd mbe) 0 0 :=
  (c_X12_allWater l γ a mh mn mkd mfg mag mpo mwy mdy mhw mkk mkf mrs mrm mrw mth 0 mgr mwa mre mpl mib msn mpn mlo mtl mke mim mhi mp0 mtk mki mun msd mbe (by omega) hM).post (fun r w h => by rw [La_0] at h; exact h)
theorem in_X12_goesNext_X12 : ∀ w ∈ u_ws RX12 TX12 34, w ∈ wsX12_goesNext := by decide +kernel
theorem ok_X12_goesNext : okY yX12_goesNext 1 := by decide +kernel
def rmX12_goesNext : Room := { frames := 4, cells := 0, slots := 0, locals := 90 }
set_option maxRecDepth 100000 in
set_option maxHeartbeats 400000 in
theorem c_X12_goesNext (l : Launch) (γ : GX) (a : Nat → Nat) (mh : Int → Int) (mn : Int) (mkd : Int → Int) (mfg : Int → Int) (mag : Int → Int) (mpo : Int → Int) (mwy : Int → Int) (mdy : Int) (mhw : Int → Int) (mkk : Int → Int) (mkf : Int → Int) (mrs : Int → Int) (mrm : Int → Int) (mrw : Int → Int) (mth : Int) (mgr : Int → Int) (mwa : Int → Int) (mre : Int) (mpl : Int) (mib : Int) (msn : Int) (mpn : Int → Int) (mlo : Int → Int) (mtl : Int → Int) (mke : Int → Int) (mim : Int → Int) (mhi : Int) (mp0 : Int) (mtk : Int) (mki : Value) (mun : Int → Int) (msd : Int) (mbe : Int → Int) (hM : WFm mn mh mkd mfg mag mpo mwy mhw mkk mkf mrs mrm mrw) (i : Int) (h0_ : 0 ≤ i ∧ i < 6) : MI l γ yX12_goesNext wsX12_goesNext rmX12_goesNext [.ref (a 0), .int (iN (i))] (WM γ a mh mn mkd mfg mag mpo mwy mdy mhw mkk mkf mrs mrm mrw mth 0 mgr mwa mre mpl mib msn mpn mlo mtl mke mim mhi mp0 mtk mki mun msd mbe) (fun r_ w_ => ∃ G, r_ = bz (mwy i ≠ 0 ∧ Ct.mg (Lc mh mn mdy mkd mfg mag mpo mwy) i (mwy i)) ∧ w_ = (WM γ a mh mn mkd mfg mag mpo mwy mdy mhw mkk mkf mrs mrm mrw mth 0 G mwa mre mpl mib msn mpn mlo mtl mke mim mhi mp0 mtk mki mun msd mbe)) 0 0 := by
  refine MI.of (cc := cX12_goesNext) (maxL := 2) (rt := .boolean) RX12 rfl (by decide +kernel) rfl (Nat.le_of_ble_eq_true rfl) ?_
  intro X C hγ hl hnm hret
  subst hγ
  have hMn := WFm.n hM
  show Wx X 0 0 (WM X.γ a mh mn mkd mfg mag mpo mwy mdy mhw mkk mkf mrs mrm mrw mth 0 mgr mwa mre mpl mib msn mpn mlo mtl mke mim mhi mp0 mtk mki mun msd mbe) 0 [(0, .ref (a 0)), (1, .int (iN (i)))] []
  refine x_aload_n C 0 rfl rfl dX12_goesNext_0 ?_
  refine x_get C in_X12_goesNext_X12 0 rfl rfl 6 (by decide) (List.mem_of_getElem? (i := 1) rfl) rfl (v := .ref (a 6)) rfl dX12_goesNext_1 ?_
  refine x_iload_n C 1 rfl rfl dX12_goesNext_4 ?_
  refine x_iaload C (f := mwy) 6 rfl (by omega) rfl dX12_goesNext_5 ?_
  have b34 := WFm.wy hM (i)
  refine x_if_eq C 27 (by decide) (by omega) dX12_goesNext_6 (fun c_6 => ?_) (fun c_6 => ?_)
  · refine x_iconst (v := 0) C dX12_goesNext_27 ?_
    exact hret _ _ _ _ dX12_goesNext_28 (nar_z (by decide)) ⟨_, (bz_f (fun z => z.1 c_6)).symm, rfl⟩
  · refine x_aload_n C 0 rfl rfl dX12_goesNext_9 ?_
    refine x_iload_n C 1 rfl rfl dX12_goesNext_10 ?_
    refine x_aload_n C 0 rfl rfl dX12_goesNext_11 ?_
    refine x_get C in_X12_goesNext_X12 0 rfl rfl 6 (by decide) (List.mem_of_getElem? (i := 1) rfl) rfl (v := .ref (a 6)) rfl dX12_goesNext_12 ?_
    refine x_iload_n C 1 rfl rfl dX12_goesNext_15 ?_
    refine x_iaload C (f := mwy) 6 rfl (by omega) rfl dX12_goesNext_16 ?_
    have b35 := WFm.wy hM (i)
    refine x_V_I C (As := [.int (iN (i)), .int (iN (mwy i))]) (rest := []) 2 0 rfl rfl gX12_goesNext_X12_couldGo rfl (c_X12_couldGo _ _ a mh mn mkd mfg mag mpo mwy mdy mhw mkk mkf mrs mrm mrw mth mgr mwa mre mpl mib msn mpn mlo mtl mke mim mhi mp0 mtk mki mun msd mbe hM (i) (mwy i) (by omega) (by omega)) rfl ok_X12_couldGo rfl rfl rfl rfl dX12_goesNext_17 (fun r w1 hp => ?_)
    obtain ⟨rfl, rfl⟩ := hp
    refine x_ifeq_bz C 27 (by decide) dX12_goesNext_20 (fun c_20 => ?_) (fun c_20 => ?_)
    · refine x_iconst (v := 0) C dX12_goesNext_27 ?_
      exact hret _ _ _ _ dX12_goesNext_28 (nar_z (by decide)) ⟨_, (bz_f (fun z => c_20 z.2)).symm, rfl⟩
    · refine x_iconst (v := 0) C dX12_goesNext_23 ?_
      refine x_goto C 28 (by decide) dX12_goesNext_24 ?_
      exact hret _ _ _ _ dX12_goesNext_28 (nar_z (by decide)) ⟨_, (bz_t ⟨c_6, c_20⟩).symm, rfl⟩
theorem in_X12_dayBy_X12 : ∀ w ∈ u_ws RX12 TX12 34, w ∈ wsX12_dayBy := by decide +kernel
theorem ok_X12_dayBy : okY yX12_dayBy 1 := by decide +kernel
def rmX12_dayBy : Room := { frames := 5, cells := 0, slots := 0, locals := 111 }
set_option maxRecDepth 100000 in
set_option maxHeartbeats 400000 in
theorem c_X12_dayBy_0 (l : Launch) (γ : GX) (a : Nat → Nat) (mh : Int → Int) (mn : Int) (mkd : Int → Int) (mfg : Int → Int) (mag : Int → Int) (mpo : Int → Int) (mwy : Int → Int) (mdy : Int) (mhw : Int → Int) (mkk : Int → Int) (mkf : Int → Int) (mrs : Int → Int) (mrm : Int → Int) (mrw : Int → Int) (mth : Int) (mgr : Int → Int) (mwa : Int → Int) (mre : Int) (mpl : Int) (mib : Int) (msn : Int) (mpn : Int → Int) (mlo : Int → Int) (mtl : Int → Int) (mke : Int → Int) (mim : Int → Int) (mhi : Int) (mp0 : Int) (mtk : Int) (mki : Value) (mun : Int → Int) (msd : Int) (mbe : Int → Int) (hM : WFm mn mh mkd mfg mag mpo mwy mhw mkk mkf mrs mrm mrw) : MV l γ yX12_dayBy wsX12_dayBy rmX12_dayBy [.ref (a 0), .int (iN (0))] (WM γ a mh mn mkd mfg mag mpo mwy mdy mhw mkk mkf mrs mrm mrw mth 0 mgr mwa mre mpl mib msn mpn mlo mtl mke mim mhi mp0 mtk mki mun msd mbe) (fun w_ => ∃ G, w_ = (WM γ a mh mn mkd mfg mag ((Ct.D (Lc mh mn mdy mkd mfg mag mpo mwy) mn.toNat).1) ((Ct.D (Lc mh mn mdy mkd mfg mag mpo mwy) mn.toNat).2.1) (mdy + 1) mhw mkk mkf mrs mrm mrw mth 0 G mwa mre mpl mib msn mpn mlo mtl mke mim mhi mp0 mtk mki mun msd mbe)) 0 0 := by
  refine MV.of (cc := cX12_dayBy) (maxL := 3) RX12 rfl (by decide +kernel) rfl (Nat.le_of_ble_eq_true rfl) ?_
  intro X C hγ hl hnm hret
  subst hγ
  have hMn := WFm.n hM
  show Wx X 0 0 (WM X.γ a mh mn mkd mfg mag mpo mwy mdy mhw mkk mkf mrs mrm mrw mth 0 mgr mwa mre mpl mib msn mpn mlo mtl mke mim mhi mp0 mtk mki mun msd mbe) 0 [(0, .ref (a 0)), (1, .int (iN (0)))] []
  refine x_aload_n C 0 rfl rfl dX12_dayBy_0 ?_
  refine x_dup C rfl dX12_dayBy_1 ?_
  refine x_get C in_X12_dayBy_X12 0 rfl rfl 7 (by decide) (List.mem_of_getElem? (i := 1) rfl) rfl (v := .int (iN (mdy))) rfl dX12_dayBy_2 ?_
  refine x_iconst (v := 0) C dX12_dayBy_5 ?_
  refine x_iadd C dX12_dayBy_6 ?_
  refine x_put C in_X12_dayBy_X12 tyX12 tyX12_ok nmX12 0 rfl rfl 7 (by decide) (List.mem_of_getElem? (i := 1) rfl) rfl rfl rfl rfl rfl (Nat.le_of_ble_eq_true rfl) (WM X.γ a mh mn mkd mfg mag mpo mwy (mdy + 1) mhw mkk mkf mrs mrm mrw mth 0 mgr mwa mre mpl mib msn mpn mlo mtl mke mim mhi mp0 mtk mki mun msd mbe) rfl dX12_dayBy_7 ?_
  refine x_iconst (v := 0) C dX12_dayBy_10 ?_
  refine x_istore_n C [(2, .int (iN (0))), (0, .ref (a 0)), (1, .int (iN (0)))] rfl (by decide) rfl dX12_dayBy_11 ?_
  have LP12 : ∀ (f : Nat) (k : Nat) (G : Int → Int) (v2_12 : Int), (mn.toNat - k < f) → (k ≤ mn.toNat) → (((k : Int)) = v2_12) → Wx X 0 0 (WM X.γ a mh mn mkd mfg mag ((Ct.D (Lc mh mn mdy mkd mfg mag mpo mwy) k).1) ((Ct.D (Lc mh mn mdy mkd mfg mag mpo mwy) k).2.1) (mdy + 1) mhw mkk mkf mrs mrm mrw mth 0 G mwa mre mpl mib msn mpn mlo mtl mke mim mhi mp0 mtk mki mun msd mbe) 12 [(2, .int (iN (v2_12))), (0, .ref (a 0)), (1, .int (iN (0)))] [] := by
    intro f
    induction f with
    | zero => intro k G v2_12 hf; exact absurd hf (Nat.not_lt_zero _)
    | succ f ih12 =>
      intro k G v2_12 hf hk e2_12
      subst e2_12
      have hD := Ct.D_ok (WFm.L hM mdy) k
      have hWk := WFm.pw hM hD.1 hD.2.1
      refine x_iload_n C 0 rfl rfl dX12_dayBy_12 ?_
      refine x_aload_n C 1 rfl rfl dX12_dayBy_13 ?_
      refine x_get C in_X12_dayBy_X12 0 rfl rfl 1 (by decide) (List.mem_of_getElem? (i := 2) rfl) rfl (v := .int (iN (mn))) rfl dX12_dayBy_14 ?_
      refine x_icmp_ge C 82 (by decide) (by omega) dX12_dayBy_17 (fun c_17 => ?_) (fun c_17 => ?_)
      · exact hret _ _ _ dX12_dayBy_82 ⟨G, (by have hz : k = mn.toNat := (by omega); subst hz; rfl)⟩
      · refine x_iload_n C 2 rfl rfl dX12_dayBy_20 ?_
        refine x_if_ne C 82 (by decide) (by decide) dX12_dayBy_21 (fun z => absurd z (by decide)) (fun _ => ?_)
        refine x_aload_n C 1 rfl rfl dX12_dayBy_24 ?_
        refine x_iload_n C 0 rfl rfl dX12_dayBy_25 ?_
        refine x_V_I C (As := [.int (iN ((k : Int)))]) (rest := []) 1 0 rfl rfl gX12_dayBy_X12_goesNext rfl (c_X12_goesNext _ _ a mh mn mkd mfg mag ((Ct.D (Lc mh mn mdy mkd mfg mag mpo mwy) k).1) ((Ct.D (Lc mh mn mdy mkd mfg mag mpo mwy) k).2.1) (mdy + 1) mhw mkk mkf mrs mrm mrw mth G mwa mre mpl mib msn mpn mlo mtl mke mim mhi mp0 mtk mki mun msd mbe hWk ((k : Int)) (by omega)) rfl ok_X12_goesNext rfl rfl rfl rfl dX12_dayBy_26 (fun r w1 hp => ?_)
        obtain ⟨Gb36, rfl, rfl⟩ := hp
        refine x_ifeq_bz C 50 (by decide) dX12_dayBy_29 (fun c_29 => ?_) (fun c_29 => ?_)
        · refine x_aload_n C 1 rfl rfl dX12_dayBy_50 ?_
          refine x_get C in_X12_dayBy_X12 0 rfl rfl 5 (by decide) (List.mem_of_getElem? (i := 3) rfl) rfl (v := .ref (a 5)) rfl dX12_dayBy_51 ?_
          refine x_iload_n C 0 rfl rfl dX12_dayBy_54 ?_
          refine x_iaload C (f := ((Ct.D (Lc mh mn mdy mkd mfg mag mpo mwy) k).1)) 5 rfl (by omega) rfl dX12_dayBy_55 ?_
          have b37 := hD.1 ((k : Int))
          refine x_aload_n C 1 rfl rfl dX12_dayBy_56 ?_
          refine x_get C in_X12_dayBy_X12 0 rfl rfl 6 (by decide) (List.mem_of_getElem? (i := 4) rfl) rfl (v := .ref (a 6)) rfl dX12_dayBy_57 ?_
          refine x_iload_n C 0 rfl rfl dX12_dayBy_60 ?_
          refine x_iaload C (f := ((Ct.D (Lc mh mn mdy mkd mfg mag mpo mwy) k).2.1)) 6 rfl (by omega) rfl dX12_dayBy_61 ?_
          have b38 := hD.2.1 ((k : Int))
          refine x_iadd C dX12_dayBy_62 ?_
          refine x_S_I C (As := [.int (iN ((((Ct.D (Lc mh mn mdy mkd mfg mag mpo mwy) k).1) (k : Int)) + (((Ct.D (Lc mh mn mdy mkd mfg mag mpo mwy) k).2.1) (k : Int))))]) (rest := []) 1 gX12_dayBy_X12_isCell (c_X12_isCell _ _ (WM X.γ a mh mn mkd mfg mag ((Ct.D (Lc mh mn mdy mkd mfg mag mpo mwy) k).1) ((Ct.D (Lc mh mn mdy mkd mfg mag mpo mwy) k).2.1) (mdy + 1) mhw mkk mkf mrs mrm mrw mth 0 Gb36 mwa mre mpl mib msn mpn mlo mtl mke mim mhi mp0 mtk mki mun msd mbe) ((((Ct.D (Lc mh mn mdy mkd mfg mag mpo mwy) k).1) (k : Int)) + (((Ct.D (Lc mh mn mdy mkd mfg mag mpo mwy) k).2.1) (k : Int))) (by omega)) rfl ok_X12_isCell rfl rfl rfl rfl dX12_dayBy_63 (fun r w1 hp => ?_)
          obtain ⟨rfl, rfl⟩ := hp
          refine x_ifne_bz C 76 (by decide) dX12_dayBy_66 (fun c_66 => ?_) (fun c_66 => ?_)
          · refine x_iinc C 0 [(2, .int (iN ((k : Int) + 1))), (0, .ref (a 0)), (1, .int (iN (0)))] rfl rfl (by decide) rfl dX12_dayBy_76 ?_
            refine x_goto C 12 (by decide) dX12_dayBy_79 ?_
            have hS : Ct.D (Lc mh mn mdy mkd mfg mag mpo mwy) (k + 1) = Ct.D (Lc mh mn mdy mkd mfg mag mpo mwy) k := by
              show stp (Ct.h (Lc mh mn mdy mkd mfg mag mpo mwy)) (Ct.n (Lc mh mn mdy mkd mfg mag mpo mwy)) (Ct.pr (Lc mh mn mdy mkd mfg mag mpo mwy)) (Ct.sp (Lc mh mn mdy mkd mfg mag mpo mwy)) (Ct.sr (Lc mh mn mdy mkd mfg mag mpo mwy)) (Ct.D (Lc mh mn mdy mkd mfg mag mpo mwy) k) (k : Int) = _
              unfold stp
              rw [if_pos (show 0 ≤ (Ct.D (Lc mh mn mdy mkd mfg mag mpo mwy) k).1 (k : Int) + (Ct.D (Lc mh mn mdy mkd mfg mag mpo mwy) k).2.1 (k : Int) ∧ (Ct.D (Lc mh mn mdy mkd mfg mag mpo mwy) k).1 (k : Int) + (Ct.D (Lc mh mn mdy mkd mfg mag mpo mwy) k).2.1 (k : Int) ≤ 14 from c_66), if_neg (show ¬ ((Ct.D (Lc mh mn mdy mkd mfg mag mpo mwy) k).2.1 (k : Int) ≠ 0 ∧ mgo (Ct.h (Lc mh mn mdy mkd mfg mag mpo mwy)) (Ct.n (Lc mh mn mdy mkd mfg mag mpo mwy)) (Ct.pr (Lc mh mn mdy mkd mfg mag mpo mwy)) (Ct.sp (Lc mh mn mdy mkd mfg mag mpo mwy)) (Ct.sr (Lc mh mn mdy mkd mfg mag mpo mwy)) (Ct.D (Lc mh mn mdy mkd mfg mag mpo mwy) k).1 (k : Int) ((Ct.D (Lc mh mn mdy mkd mfg mag mpo mwy) k).2.1 (k : Int))) from c_29)]
            refine Wx.eqW (ws' := (WM X.γ a mh mn mkd mfg mag ((Ct.D (Lc mh mn mdy mkd mfg mag mpo mwy) (k + 1)).1) ((Ct.D (Lc mh mn mdy mkd mfg mag mpo mwy) (k + 1)).2.1) (mdy + 1) mhw mkk mkf mrs mrm mrw mth 0 Gb36 mwa mre mpl mib msn mpn mlo mtl mke mim mhi mp0 mtk mki mun msd mbe)) (by rw [hS]) ?_
            exact ih12 (k + 1) (Gb36) _ (by omega) (by omega) (by omega)
          · refine x_aload_n C 1 rfl rfl dX12_dayBy_69 ?_
            refine x_get C in_X12_dayBy_X12 0 rfl rfl 6 (by decide) (List.mem_of_getElem? (i := 4) rfl) rfl (v := .ref (a 6)) rfl dX12_dayBy_70 ?_
            refine x_iload_n C 0 rfl rfl dX12_dayBy_73 ?_
            refine x_iconst (v := 0) C dX12_dayBy_74 ?_
            refine x_iastore C (f := ((Ct.D (Lc mh mn mdy mkd mfg mag mpo mwy) k).2.1)) 6 rfl (by omega) rfl (WM X.γ a mh mn mkd mfg mag ((Ct.D (Lc mh mn mdy mkd mfg mag mpo mwy) k).1) (upz ((Ct.D (Lc mh mn mdy mkd mfg mag mpo mwy) k).2.1) (k : Int) 0) (mdy + 1) mhw mkk mkf mrs mrm mrw mth 0 Gb36 mwa mre mpl mib msn mpn mlo mtl mke mim mhi mp0 mtk mki mun msd mbe) rfl dX12_dayBy_75 ?_
            refine x_iinc C 0 [(2, .int (iN ((k : Int) + 1))), (0, .ref (a 0)), (1, .int (iN (0)))] rfl rfl (by decide) rfl dX12_dayBy_76 ?_
            refine x_goto C 12 (by decide) dX12_dayBy_79 ?_
            have hS : Ct.D (Lc mh mn mdy mkd mfg mag mpo mwy) (k + 1) = ((Ct.D (Lc mh mn mdy mkd mfg mag mpo mwy) k).1, upz ((Ct.D (Lc mh mn mdy mkd mfg mag mpo mwy) k).2.1) (k : Int) 0, (Ct.D (Lc mh mn mdy mkd mfg mag mpo mwy) k).2.2) := by
              show stp (Ct.h (Lc mh mn mdy mkd mfg mag mpo mwy)) (Ct.n (Lc mh mn mdy mkd mfg mag mpo mwy)) (Ct.pr (Lc mh mn mdy mkd mfg mag mpo mwy)) (Ct.sp (Lc mh mn mdy mkd mfg mag mpo mwy)) (Ct.sr (Lc mh mn mdy mkd mfg mag mpo mwy)) (Ct.D (Lc mh mn mdy mkd mfg mag mpo mwy) k) (k : Int) = _
              unfold stp
              rw [if_neg c_66]
            refine Wx.eqW (ws' := (WM X.γ a mh mn mkd mfg mag ((Ct.D (Lc mh mn mdy mkd mfg mag mpo mwy) (k + 1)).1) ((Ct.D (Lc mh mn mdy mkd mfg mag mpo mwy) (k + 1)).2.1) (mdy + 1) mhw mkk mkf mrs mrm mrw mth 0 Gb36 mwa mre mpl mib msn mpn mlo mtl mke mim mhi mp0 mtk mki mun msd mbe)) (by rw [hS]) ?_
            exact ih12 (k + 1) (Gb36) _ (by omega) (by omega) (by omega)
        · refine x_aload_n C 1 rfl rfl dX12_dayBy_32 ?_
          refine x_get C in_X12_dayBy_X12 0 rfl rfl 5 (by decide) (List.mem_of_getElem? (i := 3) rfl) rfl (v := .ref (a 5)) rfl dX12_dayBy_33 ?_
          refine x_iload_n C 0 rfl rfl dX12_dayBy_36 ?_
          refine x_dup2 C rfl rfl dX12_dayBy_37 ?_
          refine x_iaload C (f := ((Ct.D (Lc mh mn mdy mkd mfg mag mpo mwy) k).1)) 5 rfl (by omega) rfl dX12_dayBy_38 ?_
          have b39 := hD.1 ((k : Int))
          refine x_aload_n C 1 rfl rfl dX12_dayBy_39 ?_
          refine x_get C in_X12_dayBy_X12 0 rfl rfl 6 (by decide) (List.mem_of_getElem? (i := 4) rfl) rfl (v := .ref (a 6)) rfl dX12_dayBy_40 ?_
          refine x_iload_n C 0 rfl rfl dX12_dayBy_43 ?_
          refine x_iaload C (f := ((Ct.D (Lc mh mn mdy mkd mfg mag mpo mwy) k).2.1)) 6 rfl (by omega) rfl dX12_dayBy_44 ?_
          have b40 := hD.2.1 ((k : Int))
          refine x_iadd C dX12_dayBy_45 ?_
          refine x_iastore C (f := ((Ct.D (Lc mh mn mdy mkd mfg mag mpo mwy) k).1)) 5 rfl (by omega) rfl (WM X.γ a mh mn mkd mfg mag (upz ((Ct.D (Lc mh mn mdy mkd mfg mag mpo mwy) k).1) (k : Int) ((((Ct.D (Lc mh mn mdy mkd mfg mag mpo mwy) k).1) (k : Int)) + (((Ct.D (Lc mh mn mdy mkd mfg mag mpo mwy) k).2.1) (k : Int)))) ((Ct.D (Lc mh mn mdy mkd mfg mag mpo mwy) k).2.1) (mdy + 1) mhw mkk mkf mrs mrm mrw mth 0 Gb36 mwa mre mpl mib msn mpn mlo mtl mke mim mhi mp0 mtk mki mun msd mbe) rfl dX12_dayBy_46 ?_
          refine x_goto C 76 (by decide) dX12_dayBy_47 ?_
          refine x_iinc C 0 [(2, .int (iN ((k : Int) + 1))), (0, .ref (a 0)), (1, .int (iN (0)))] rfl rfl (by decide) rfl dX12_dayBy_76 ?_
          refine x_goto C 12 (by decide) dX12_dayBy_79 ?_
          have hS : Ct.D (Lc mh mn mdy mkd mfg mag mpo mwy) (k + 1) = (upz ((Ct.D (Lc mh mn mdy mkd mfg mag mpo mwy) k).1) (k : Int) ((((Ct.D (Lc mh mn mdy mkd mfg mag mpo mwy) k).1) (k : Int)) + (((Ct.D (Lc mh mn mdy mkd mfg mag mpo mwy) k).2.1) (k : Int))), (Ct.D (Lc mh mn mdy mkd mfg mag mpo mwy) k).2.1, 1) := by
            show stp (Ct.h (Lc mh mn mdy mkd mfg mag mpo mwy)) (Ct.n (Lc mh mn mdy mkd mfg mag mpo mwy)) (Ct.pr (Lc mh mn mdy mkd mfg mag mpo mwy)) (Ct.sp (Lc mh mn mdy mkd mfg mag mpo mwy)) (Ct.sr (Lc mh mn mdy mkd mfg mag mpo mwy)) (Ct.D (Lc mh mn mdy mkd mfg mag mpo mwy) k) (k : Int) = _
            unfold stp
            rw [if_pos (show 0 ≤ (Ct.D (Lc mh mn mdy mkd mfg mag mpo mwy) k).1 (k : Int) + (Ct.D (Lc mh mn mdy mkd mfg mag mpo mwy) k).2.1 (k : Int) ∧ (Ct.D (Lc mh mn mdy mkd mfg mag mpo mwy) k).1 (k : Int) + (Ct.D (Lc mh mn mdy mkd mfg mag mpo mwy) k).2.1 (k : Int) ≤ 14 from c_29.2.1), if_pos (show (Ct.D (Lc mh mn mdy mkd mfg mag mpo mwy) k).2.1 (k : Int) ≠ 0 ∧ mgo (Ct.h (Lc mh mn mdy mkd mfg mag mpo mwy)) (Ct.n (Lc mh mn mdy mkd mfg mag mpo mwy)) (Ct.pr (Lc mh mn mdy mkd mfg mag mpo mwy)) (Ct.sp (Lc mh mn mdy mkd mfg mag mpo mwy)) (Ct.sr (Lc mh mn mdy mkd mfg mag mpo mwy)) (Ct.D (Lc mh mn mdy mkd mfg mag mpo mwy) k).1 (k : Int) ((Ct.D (Lc mh mn mdy mkd mfg mag mpo mwy) k).2.1 (k : Int)) from c_29)]
          refine Wx.eqW (ws' := (WM X.γ a mh mn mkd mfg mag ((Ct.D (Lc mh mn mdy mkd mfg mag mpo mwy) (k + 1)).1) ((Ct.D (Lc mh mn mdy mkd mfg mag mpo mwy) (k + 1)).2.1) (mdy + 1) mhw mkk mkf mrs mrm mrw mth 0 Gb36 mwa mre mpl mib msn mpn mlo mtl mke mim mhi mp0 mtk mki mun msd mbe)) (by rw [hS]) ?_
          exact ih12 (k + 1) (Gb36) _ (by omega) (by omega) (by omega)
  exact LP12 ((mn.toNat - (0)) + 1) (0) (mgr) _ (by omega) (by omega) (by omega)
set_option maxRecDepth 100000 in
set_option maxHeartbeats 400000 in
theorem c_X12_dayBy_1 (l : Launch) (γ : GX) (a : Nat → Nat) (mh : Int → Int) (mn : Int) (mkd : Int → Int) (mfg : Int → Int) (mag : Int → Int) (mpo : Int → Int) (mwy : Int → Int) (mdy : Int) (mhw : Int → Int) (mkk : Int → Int) (mkf : Int → Int) (mrs : Int → Int) (mrm : Int → Int) (mrw : Int → Int) (mth : Int) (maw : Int) (mgr : Int → Int) (mwa : Int → Int) (mre : Int) (mpl : Int) (mib : Int) (msn : Int) (mpn : Int → Int) (mlo : Int → Int) (mtl : Int → Int) (mke : Int → Int) (mim : Int → Int) (mhi : Int) (mp0 : Int) (mtk : Int) (mki : Value) (mun : Int → Int) (msd : Int) (mbe : Int → Int) (hM : WFm mn mh mkd mfg mag mpo mwy mhw mkk mkf mrs mrm mrw) : MV l γ yX12_dayBy wsX12_dayBy rmX12_dayBy [.ref (a 0), .int (iN (1))] (WM γ a mh mn mkd mfg mag mpo mwy mdy mhw mkk mkf mrs mrm mrw mth maw mgr mwa mre mpl mib msn mpn mlo mtl mke mim mhi mp0 mtk mki mun msd mbe) (fun w_ => w_ = (WM γ a mh mn mkd mfg mag mpo mwy (mdy + 1) mhw mkk mkf mrs mrm mrw mth maw mgr mwa mre mpl mib msn mpn mlo mtl mke mim mhi mp0 mtk mki mun msd mbe)) 0 0 := by
  refine MV.of (cc := cX12_dayBy) (maxL := 3) RX12 rfl (by decide +kernel) rfl (Nat.le_of_ble_eq_true rfl) ?_
  intro X C hγ hl hnm hret
  subst hγ
  have hMn := WFm.n hM
  show Wx X 0 0 (WM X.γ a mh mn mkd mfg mag mpo mwy mdy mhw mkk mkf mrs mrm mrw mth maw mgr mwa mre mpl mib msn mpn mlo mtl mke mim mhi mp0 mtk mki mun msd mbe) 0 [(0, .ref (a 0)), (1, .int (iN (1)))] []
  refine x_aload_n C 0 rfl rfl dX12_dayBy_0 ?_
  refine x_dup C rfl dX12_dayBy_1 ?_
  refine x_get C in_X12_dayBy_X12 0 rfl rfl 7 (by decide) (List.mem_of_getElem? (i := 1) rfl) rfl (v := .int (iN (mdy))) rfl dX12_dayBy_2 ?_
  refine x_iconst (v := 0) C dX12_dayBy_5 ?_
  refine x_iadd C dX12_dayBy_6 ?_
  refine x_put C in_X12_dayBy_X12 tyX12 tyX12_ok nmX12 0 rfl rfl 7 (by decide) (List.mem_of_getElem? (i := 1) rfl) rfl rfl rfl rfl rfl (Nat.le_of_ble_eq_true rfl) (WM X.γ a mh mn mkd mfg mag mpo mwy (mdy + 1) mhw mkk mkf mrs mrm mrw mth maw mgr mwa mre mpl mib msn mpn mlo mtl mke mim mhi mp0 mtk mki mun msd mbe) rfl dX12_dayBy_7 ?_
  refine x_iconst (v := 0) C dX12_dayBy_10 ?_
  refine x_istore_n C [(2, .int (iN (0))), (0, .ref (a 0)), (1, .int (iN (1)))] rfl (by decide) rfl dX12_dayBy_11 ?_
  refine x_iload_n C 0 rfl rfl dX12_dayBy_12 ?_
  refine x_aload_n C 1 rfl rfl dX12_dayBy_13 ?_
  refine x_get C in_X12_dayBy_X12 0 rfl rfl 1 (by decide) (List.mem_of_getElem? (i := 2) rfl) rfl (v := .int (iN (mn))) rfl dX12_dayBy_14 ?_
  refine x_icmp_ge C 82 (by decide) (by omega) dX12_dayBy_17 (fun c_17 => ?_) (fun c_17 => ?_)
  · exact hret _ _ _ dX12_dayBy_82 rfl
  · refine x_iload_n C 2 rfl rfl dX12_dayBy_20 ?_
    refine x_if_ne C 82 (by decide) (by decide) dX12_dayBy_21 (fun _ => ?_) (fun z => absurd z (by decide))
    exact hret _ _ _ dX12_dayBy_82 rfl
theorem ok_X12_goDays : okY yX12_goDays 1 := by decide +kernel
def rmX12_goDays : Room := { frames := 6, cells := 0, slots := 0, locals := 133 }
set_option maxRecDepth 100000 in
set_option maxHeartbeats 400000 in
theorem c_X12_goDays (l : Launch) (γ : GX) (a : Nat → Nat) (mh : Int → Int) (mn : Int) (mkd : Int → Int) (mfg : Int → Int) (mag : Int → Int) (mpo : Int → Int) (mwy : Int → Int) (mdy : Int) (mhw : Int → Int) (mkk : Int → Int) (mkf : Int → Int) (mrs : Int → Int) (mrm : Int → Int) (mrw : Int → Int) (mth : Int) (mgr : Int → Int) (mwa : Int → Int) (mre : Int) (mpl : Int) (mib : Int) (msn : Int) (mpn : Int → Int) (mlo : Int → Int) (mtl : Int → Int) (mke : Int → Int) (mim : Int → Int) (mhi : Int) (mp0 : Int) (mtk : Int) (mki : Value) (mun : Int → Int) (msd : Int) (mbe : Int → Int) (hM : WFm mn mh mkd mfg mag mpo mwy mhw mkk mkf mrs mrm mrw) (m : Int) (h0_ : 0 ≤ m ∧ m < 2147483648) : MV l γ yX12_goDays wsX12_goDays rmX12_goDays [.ref (a 0), .int (iN (m))] (WM γ a mh mn mkd mfg mag mpo mwy mdy mhw mkk mkf mrs mrm mrw mth 0 mgr mwa mre mpl mib msn mpn mlo mtl mke mim mhi mp0 mtk mki mun msd mbe) (fun w_ => ∃ G, w_ = (WM γ a mh mn mkd mfg mag (Ct.po (Ct.days (Lc mh mn mdy mkd mfg mag mpo mwy) m.toNat)) (Ct.wy (Ct.days (Lc mh mn mdy mkd mfg mag mpo mwy) m.toNat)) (Ct.dy (Ct.days (Lc mh mn mdy mkd mfg mag mpo mwy) m.toNat)) mhw mkk mkf mrs mrm mrw mth 0 G mwa mre mpl mib msn mpn mlo mtl mke mim mhi mp0 mtk mki mun msd mbe)) 0 0 := by
  refine MV.of (cc := cX12_goDays) (maxL := 3) RX12 rfl (by decide +kernel) rfl (Nat.le_of_ble_eq_true rfl) ?_
  intro X C hγ hl hnm hret
  subst hγ
  have hMn := WFm.n hM
  show Wx X 0 0 (WM X.γ a mh mn mkd mfg mag mpo mwy mdy mhw mkk mkf mrs mrm mrw mth 0 mgr mwa mre mpl mib msn mpn mlo mtl mke mim mhi mp0 mtk mki mun msd mbe) 0 [(0, .ref (a 0)), (1, .int (iN (m)))] []
  refine x_iconst (v := 0) C dX12_goDays_0 ?_
  refine x_istore_n C [(2, .int (iN (0))), (0, .ref (a 0)), (1, .int (iN (m)))] rfl (by decide) rfl dX12_goDays_1 ?_
  have LP2 : ∀ (f : Nat) (k : Nat) (G : Int → Int) (v2_2 : Int), (m.toNat - k < f) → (k ≤ m.toNat) → (((k : Int)) = v2_2) → Wx X 0 0 (WM X.γ a mh mn mkd mfg mag (Ct.po (Ct.days (Lc mh mn mdy mkd mfg mag mpo mwy) k)) (Ct.wy (Ct.days (Lc mh mn mdy mkd mfg mag mpo mwy) k)) (Ct.dy (Ct.days (Lc mh mn mdy mkd mfg mag mpo mwy) k)) mhw mkk mkf mrs mrm mrw mth 0 G mwa mre mpl mib msn mpn mlo mtl mke mim mhi mp0 mtk mki mun msd mbe) 2 [(2, .int (iN (v2_2))), (0, .ref (a 0)), (1, .int (iN (m)))] [] := by
    intro f
    induction f with
    | zero => intro k G v2_2 hf; exact absurd hf (Nat.not_lt_zero _)
    | succ f ih2 =>
      intro k G v2_2 hf hk e2_2
      subst e2_2
      refine x_iload_n C 0 rfl rfl dX12_goDays_2 ?_
      refine x_iload_n C 2 rfl rfl dX12_goDays_3 ?_
      refine x_icmp_ge C 18 (by decide) (by omega) dX12_goDays_4 (fun c_4 => ?_) (fun c_4 => ?_)
      · exact hret _ _ _ dX12_goDays_18 ⟨G, (by have hz : k = m.toNat := (by omega); subst hz; rfl)⟩
      · refine x_aload_n C 1 rfl rfl dX12_goDays_7 ?_
        refine x_iconst (v := 0) C dX12_goDays_8 ?_
        refine x_V_V C (As := [.int (iN (0))]) (rest := []) 1 0 rfl rfl gX12_goDays_X12_dayBy rfl (c_X12_dayBy_0 _ _ a mh mn mkd mfg mag (Ct.po (Ct.days (Lc mh mn mdy mkd mfg mag mpo mwy) k)) (Ct.wy (Ct.days (Lc mh mn mdy mkd mfg mag mpo mwy) k)) (Ct.dy (Ct.days (Lc mh mn mdy mkd mfg mag mpo mwy) k)) mhw mkk mkf mrs mrm mrw mth G mwa mre mpl mib msn mpn mlo mtl mke mim mhi mp0 mtk mki mun msd mbe (WFm.pw hM (Ct.days_wf (WFm.L hM mdy) k).po (Ct.days_wf (WFm.L hM mdy) k).wy)) rfl ok_X12_dayBy rfl rfl rfl rfl dX12_goDays_9 (fun w1 hp => ?_)
        obtain ⟨Gb41, rfl⟩ := hp
        refine x_iinc C 0 [(2, .int (iN ((k : Int) + 1))), (0, .ref (a 0)), (1, .int (iN (m)))] rfl rfl (by decide) rfl dX12_goDays_12 ?_
        refine x_goto C 2 (by decide) dX12_goDays_15 ?_
        have hL : (Lc mh mn (Ct.dy (Ct.days (Lc mh mn mdy mkd mfg mag mpo mwy) k)) mkd mfg mag (Ct.po (Ct.days (Lc mh mn mdy mkd mfg mag mpo mwy) k)) (Ct.wy (Ct.days (Lc mh mn mdy mkd mfg mag mpo mwy) k))) = Ct.days (Lc mh mn mdy mkd mfg mag mpo mwy) k := (Ct.days_same (Lc mh mn mdy mkd mfg mag mpo mwy) k).symm
        refine Wx.eqW (ws' := (WM X.γ a mh mn mkd mfg mag (Ct.po (Ct.days (Lc mh mn mdy mkd mfg mag mpo mwy) (k + 1))) (Ct.wy (Ct.days (Lc mh mn mdy mkd mfg mag mpo mwy) (k + 1))) (Ct.dy (Ct.days (Lc mh mn mdy mkd mfg mag mpo mwy) (k + 1))) mhw mkk mkf mrs mrm mrw mth 0 Gb41 mwa mre mpl mib msn mpn mlo mtl mke mim mhi mp0 mtk mki mun msd mbe)) (by rw [hL]; obtain ⟨e1, e2, e3⟩ := Ct.days_s (Lc mh mn mdy mkd mfg mag mpo mwy) k; rw [e1, e2, e3]; try rfl) ?_
        exact ih2 (k + 1) (Gb41) _ (by omega) (by omega) (by omega)
  exact LP2 ((m.toNat - (0)) + 1) (0) (mgr) _ (by omega) (by omega) (by omega)
end HMOD
