section HSMA
theorem ok_X12_narrowed : okY yX12_narrowed 2 := by decide +kernel
def rmX12_narrowed : Room := { frames := 0, cells := 0, slots := 0, locals := 0 }
set_option maxRecDepth 100000 in
set_option maxHeartbeats 400000 in
theorem c_X12_narrowed (l : Launch) (γ : GX) (w0 : va_W) (v : Int) (so : Int) (h0_ : -2147483648 ≤ v ∧ v < 2147483648) (h1_ : -2147483648 ≤ so ∧ so < 2147483648) : MJ l γ yX12_narrowed wsX12_narrowed rmX12_narrowed [.int (iN (v)), .int (iN (so))] w0 (fun r_ w_ => r_ = (nar so v) ∧ w_ = w0) 0 0 := by
  refine MJ.of (cc := cX12_narrowed) (maxL := 2) RX12 rfl (by decide +kernel) rfl (Nat.le_of_ble_eq_true rfl) ?_
  intro X C hγ hl hnm hret
  subst hγ
  show Wx X 0 0 w0 0 [(0, .int (iN (v))), (1, .int (iN (so)))] []
  refine x_iload_n C 1 rfl rfl dX12_narrowed_0 ?_
  refine x_if_ne C 10 (by decide) (by omega) dX12_narrowed_1 (fun c_1 => ?_) (fun c_1 => ?_)
  · refine x_iload_n C 1 rfl rfl dX12_narrowed_10 ?_
    refine x_iconst (v := 0) C dX12_narrowed_11 ?_
    refine x_icmp_ne C 21 (by decide) (by omega) dX12_narrowed_12 (fun c_12 => ?_) (fun c_12 => ?_)
    · refine x_iload_n C 0 rfl rfl dX12_narrowed_21 ?_
      refine x_i2l C (by omega) dX12_narrowed_22 ?_
      exact hret _ _ _ _ dX12_narrowed_23 ⟨(by unfold nar; rw [if_neg (show ¬ so = 0 by omega), if_neg (show ¬ so = 1 by omega)]), rfl⟩
    · refine x_iload_n C 0 rfl rfl dX12_narrowed_15 ?_
      refine x_i2s C (nsz v) (nsz_e _) dX12_narrowed_16 ?_
      have b_16 := nsz_b v
      refine x_i2l C (by omega) dX12_narrowed_17 ?_
      refine x_goto C 23 (by decide) dX12_narrowed_18 ?_
      exact hret _ _ _ _ dX12_narrowed_23 ⟨(by unfold nar; rw [if_neg (show ¬ so = 0 by omega), if_pos (show so = 1 by omega)]), rfl⟩
  · refine x_iload_n C 0 rfl rfl dX12_narrowed_4 ?_
    refine x_i2b C (nbz v) (nbz_e _) dX12_narrowed_5 ?_
    have b_5 := nbz_b v
    refine x_i2l C (by omega) dX12_narrowed_6 ?_
    refine x_goto C 23 (by decide) dX12_narrowed_7 ?_
    exact hret _ _ _ _ dX12_narrowed_23 ⟨(by unfold nar; rw [if_pos (show so = 0 by omega)]), rfl⟩
end HSMA
