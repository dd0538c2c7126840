section HXCat
theorem ok_X11_shares : okY yX11_shares 3 := by decide +kernel
def rmX11_shares : Room := { frames := 1, cells := 0, slots := 0, locals := 22 }
set_option maxRecDepth 100000 in
set_option maxHeartbeats 400000 in
theorem c_X11_shares (l : Launch) (γ : GX) (b : Nat → Nat) (F : Nat → Sh) (N M P : Ct) (hp sd : Int) (hN : WFc N) (hF : ∀ t : Nat, t < 8 → WFs (F t)) (n : Int) (m : Int) (i : Int) (h0_ : -2147483648 ≤ n ∧ n < 2147483648) (h1_ : -2147483648 ≤ m ∧ m < 2147483648) (h2_ : -2147483648 ≤ i ∧ i < 2147483648) : MI l γ yX11_shares wsX11_shares rmX11_shares [.ref (b 0), .int (iN (n)), .int (iN (m)), .int (iN (i))] (WX γ b F N M P hp sd) (fun r_ w_ => r_ = q_shares n m i ∧ Wc γ b F N P hp w_) 0 0 := by
  refine MI.of (cc := cX11_shares) (maxL := 4) (rt := .int) RX11 rfl (by decide +kernel) rfl (Nat.le_of_ble_eq_true rfl) ?_
  intro X C hγ hl hnm hret
  subst hγ
  have hNn := WFc.n hN
  show Wx X 0 0 (WX X.γ b F N M P hp sd) 0 [(0, .ref (b 0)), (1, .int (iN (n))), (2, .int (iN (m))), (3, .int (iN (i)))] []
  refine x_iload_n C 1 rfl rfl dX11_shares_0 ?_
  refine x_iconst (v := 0) C dX11_shares_1 ?_
  refine x_bipush C (9) (by decide) dX11_shares_2 ?_
  refine x_S_I C (As := [.int (iN (n)), .int (iN (1)), .int (iN (9))]) (rest := []) 3 gX11_shares_X11_isWithin (c_X11_isWithin _ _ (WX X.γ b F N M P hp sd) (n) (1) (9) (by omega) (by omega) (by omega)) rfl ok_X11_isWithin rfl rfl rfl rfl dX11_shares_4 (fun r w1 hp => ?_)
  obtain ⟨rfl, rfl⟩ := hp
  refine x_ifeq_bz C 31 (by decide) dX11_shares_7 (fun c_7 => ?_) (fun c_7 => ?_)
  · refine x_iconst (v := 0) C dX11_shares_31 ?_
    exact hret _ _ _ _ dX11_shares_32 rfl ⟨(by unfold q_shares; omega), ⟨(Ct.wa N), (Ct.wa P), _, _, rfl⟩⟩
  · refine x_iload_n C 2 rfl rfl dX11_shares_10 ?_
    refine x_iconst (v := 0) C dX11_shares_11 ?_
    refine x_bipush C (99) (by decide) dX11_shares_12 ?_
    refine x_S_I C (As := [.int (iN (m)), .int (iN (0)), .int (iN (99))]) (rest := []) 3 gX11_shares_X11_isWithin (c_X11_isWithin _ _ (WX X.γ b F N M P hp sd) (m) (0) (99) (by omega) (by omega) (by omega)) rfl ok_X11_isWithin rfl rfl rfl rfl dX11_shares_14 (fun r w1 hp => ?_)
    obtain ⟨rfl, rfl⟩ := hp
    refine x_ifeq_bz C 31 (by decide) dX11_shares_17 (fun c_17 => ?_) (fun c_17 => ?_)
    · refine x_iconst (v := 0) C dX11_shares_31 ?_
      exact hret _ _ _ _ dX11_shares_32 rfl ⟨(by unfold q_shares; omega), ⟨(Ct.wa N), (Ct.wa P), _, _, rfl⟩⟩
    · refine x_iload_n C 3 rfl rfl dX11_shares_20 ?_
      refine x_iconst (v := 0) C dX11_shares_21 ?_
      refine x_iload_n C 1 rfl rfl dX11_shares_22 ?_
      refine x_iconst (v := 0) C dX11_shares_23 ?_
      refine x_isub C dX11_shares_24 ?_
      refine x_S_I C (As := [.int (iN (i)), .int (iN (0)), .int (iN (n - 1))]) (rest := []) 3 gX11_shares_X11_isWithin (c_X11_isWithin _ _ (WX X.γ b F N M P hp sd) (i) (0) (n - 1) (by omega) (by omega) (by omega)) rfl ok_X11_isWithin rfl rfl rfl rfl dX11_shares_25 (fun r w1 hp => ?_)
      obtain ⟨rfl, rfl⟩ := hp
      refine x_ifne_bz C 33 (by decide) dX11_shares_28 (fun c_28 => ?_) (fun c_28 => ?_)
      · refine x_iload_n C 2 rfl rfl dX11_shares_33 ?_
        have hm1 := Int.emod_nonneg m (show n ≠ 0 by omega)
        have hm2 := Int.emod_lt_of_pos m (show 0 < n by omega)
        refine x_iload_n C 1 rfl rfl dX11_shares_34 ?_
        refine x_idiv C (by omega) dX11_shares_35 ?_
        refine x_iload_n C 3 rfl rfl dX11_shares_36 ?_
        refine x_iload_n C 2 rfl rfl dX11_shares_37 ?_
        refine x_iload_n C 1 rfl rfl dX11_shares_38 ?_
        have hm1 := Int.emod_nonneg m (show n ≠ 0 by omega)
        have hm2 := Int.emod_lt_of_pos m (show 0 < n by omega)
        refine x_irem C (by omega) dX11_shares_39 ?_
        have LP48 : ∀ (s0_48 : Int), (s0_48 = (if i < m % n then 1 else 0)) → Wx X 0 0 (WX X.γ b F N M P hp sd) 48 [(0, .ref (b 0)), (1, .int (iN (n))), (2, .int (iN (m))), (3, .int (iN (i)))] [.int (iN (s0_48)), .int (iN (m / n))] := by
          intro s0_48 es0_48
          refine x_iadd C dX11_shares_48 ?_
          exact hret _ _ _ _ dX11_shares_49 rfl ⟨(by unfold q_shares; omega), ⟨(Ct.wa N), (Ct.wa P), _, _, rfl⟩⟩
        refine x_icmp_ge C 47 (by decide) (by omega) dX11_shares_40 (fun c_40 => ?_) (fun c_40 => ?_)
        · refine x_iconst (v := 0) C dX11_shares_47 ?_
          exact LP48 _ (by omega)
        · refine x_iconst (v := 0) C dX11_shares_43 ?_
          refine x_goto C 48 (by decide) dX11_shares_44 ?_
          exact LP48 _ (by omega)
      · refine x_iconst (v := 0) C dX11_shares_31 ?_
        exact hret _ _ _ _ dX11_shares_32 rfl ⟨(by unfold q_shares; omega), ⟨(Ct.wa N), (Ct.wa P), _, _, rfl⟩⟩
end HXCat
