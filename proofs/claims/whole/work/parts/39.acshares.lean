section HSM2ac
theorem in_X12_shares_X12 : ∀ w ∈ u_ws RX12 TX12 34, w ∈ wsX12_shares := by decide +kernel
theorem ok_X12_shares : okY yX12_shares 3 := by decide +kernel
def rmX12_shares : Room := { frames := 1, cells := 0, slots := 0, locals := 25 }
set_option maxRecDepth 100000 in
set_option maxHeartbeats 400000 in
theorem c_X12_shares (l : Launch) (γ : GX) (a : Nat → Nat) (mh : Int → Int) (mn : Int) (mkd : Int → Int) (mfg : Int → Int) (mag : Int → Int) (mpo : Int → Int) (mwy : Int → Int) (mdy : Int) (mhw : Int → Int) (mkk : Int → Int) (mkf : Int → Int) (mrs : Int → Int) (mrm : Int → Int) (mrw : Int → Int) (mth : Int) (mgr : Int → Int) (mwa : Int → Int) (mre : Int) (mpl : Int) (mib : Int) (msn : Int) (mpn : Int → Int) (mlo : Int → Int) (mtl : Int → Int) (mke : Int → Int) (mim : Int → Int) (mhi : Int) (mp0 : Int) (mtk : Int) (mki : Value) (mun : Int → Int) (msd : Int) (mbe : Int → Int) (hM : WFm mn mh mkd mfg mag mpo mwy mhw mkk mkf mrs mrm mrw) (n : Int) (m : Int) (i : Int) (h0_ : -2147483648 ≤ n ∧ n < 2147483648) (h1_ : -2147483648 ≤ m ∧ m < 2147483648) (h2_ : -2147483648 ≤ i ∧ i < 2147483648) : MI l γ yX12_shares wsX12_shares rmX12_shares [.ref (a 0), .int (iN (n)), .int (iN (m)), .int (iN (i))] (WM γ a mh mn mkd mfg mag mpo mwy mdy mhw mkk mkf mrs mrm mrw mth 0 mgr mwa mre mpl mib msn mpn mlo mtl mke mim mhi mp0 mtk mki mun msd mbe) (fun r_ w_ => r_ = q_shares n m i ∧ Wk γ a mh mn mkd mfg mag mpo mwy mdy mhw mkk mkf mrs mrm mrw 0 mim mhi w_) 0 0 := by
  refine MI.of (cc := cX12_shares) (maxL := 4) (rt := .int) RX12 rfl (by decide +kernel) rfl (Nat.le_of_ble_eq_true rfl) ?_
  intro X C hγ hl hnm hret
  subst hγ
  have hMn := WFm.n hM
  show Wx X 0 0 (WM X.γ a mh mn mkd mfg mag mpo mwy mdy mhw mkk mkf mrs mrm mrw mth 0 mgr mwa mre mpl mib msn mpn mlo mtl mke mim mhi mp0 mtk mki mun msd mbe) 0 [(0, .ref (a 0)), (1, .int (iN (n))), (2, .int (iN (m))), (3, .int (iN (i)))] []
  refine x_aload_n C 0 rfl rfl dX12_shares_0 ?_
  refine x_iconst (v := 0) C dX12_shares_1 ?_
  refine x_put C in_X12_shares_X12 tyX12 tyX12_ok nmX12 0 rfl rfl 14 (by decide) (List.mem_of_getElem? (i := 1) rfl) rfl rfl rfl rfl rfl (Nat.le_of_ble_eq_true rfl) (WM X.γ a mh mn mkd mfg mag mpo mwy mdy mhw mkk mkf mrs mrm mrw 0 0 mgr mwa mre mpl mib msn mpn mlo mtl mke mim mhi mp0 mtk mki mun msd mbe) rfl dX12_shares_2 ?_
  refine x_iload_n C 1 rfl rfl dX12_shares_5 ?_
  refine x_i2l C (by omega) dX12_shares_6 ?_
  refine x_lconst C 1 rfl dX12_shares_7 ?_
  refine x_ldc2 C (9) (List.mem_of_getElem? (i := 2) rfl) (by decide) dX12_shares_8 ?_
  refine x_S_I C (As := [.long (jN (n)), .long (jN (1)), .long (jN (9))]) (rest := []) 3 gX12_shares_X12_in (c_X12_in _ _ (WM X.γ a mh mn mkd mfg mag mpo mwy mdy mhw mkk mkf mrs mrm mrw 0 0 mgr mwa mre mpl mib msn mpn mlo mtl mke mim mhi mp0 mtk mki mun msd mbe) (n) (1) (9) (by omega) (by omega) (by omega)) rfl ok_X12_in rfl rfl rfl rfl dX12_shares_11 (fun r w1 hp => ?_)
  obtain ⟨rfl, rfl⟩ := hp
  refine x_ifeq_bz C 42 (by decide) dX12_shares_14 (fun c_14 => ?_) (fun c_14 => ?_)
  · refine x_iconst (v := 0) C dX12_shares_42 ?_
    exact hret _ _ _ _ dX12_shares_43 rfl ⟨(by unfold q_shares; omega), Wk.mk⟩
  · refine x_iload_n C 2 rfl rfl dX12_shares_17 ?_
    refine x_i2l C (by omega) dX12_shares_18 ?_
    refine x_lconst C 0 rfl dX12_shares_19 ?_
    refine x_ldc2 C (99) (List.mem_of_getElem? (i := 3) rfl) (by decide) dX12_shares_20 ?_
    refine x_S_I C (As := [.long (jN (m)), .long (jN (0)), .long (jN (99))]) (rest := []) 3 gX12_shares_X12_in (c_X12_in _ _ (WM X.γ a mh mn mkd mfg mag mpo mwy mdy mhw mkk mkf mrs mrm mrw 0 0 mgr mwa mre mpl mib msn mpn mlo mtl mke mim mhi mp0 mtk mki mun msd mbe) (m) (0) (99) (by omega) (by omega) (by omega)) rfl ok_X12_in rfl rfl rfl rfl dX12_shares_23 (fun r w1 hp => ?_)
    obtain ⟨rfl, rfl⟩ := hp
    refine x_ifeq_bz C 42 (by decide) dX12_shares_26 (fun c_26 => ?_) (fun c_26 => ?_)
    · refine x_iconst (v := 0) C dX12_shares_42 ?_
      exact hret _ _ _ _ dX12_shares_43 rfl ⟨(by unfold q_shares; omega), Wk.mk⟩
    · refine x_iload_n C 3 rfl rfl dX12_shares_29 ?_
      refine x_i2l C (by omega) dX12_shares_30 ?_
      refine x_lconst C 0 rfl dX12_shares_31 ?_
      refine x_iload_n C 1 rfl rfl dX12_shares_32 ?_
      refine x_iconst (v := 0) C dX12_shares_33 ?_
      refine x_isub C dX12_shares_34 ?_
      refine x_i2l C (by omega) dX12_shares_35 ?_
      refine x_S_I C (As := [.long (jN (i)), .long (jN (0)), .long (jN (n - 1))]) (rest := []) 3 gX12_shares_X12_in (c_X12_in _ _ (WM X.γ a mh mn mkd mfg mag mpo mwy mdy mhw mkk mkf mrs mrm mrw 0 0 mgr mwa mre mpl mib msn mpn mlo mtl mke mim mhi mp0 mtk mki mun msd mbe) (i) (0) (n - 1) (by omega) (by omega) (by omega)) rfl ok_X12_in rfl rfl rfl rfl dX12_shares_36 (fun r w1 hp => ?_)
      obtain ⟨rfl, rfl⟩ := hp
      refine x_ifne_bz C 44 (by decide) dX12_shares_39 (fun c_39 => ?_) (fun c_39 => ?_)
      · refine x_iload_n C 2 rfl rfl dX12_shares_44 ?_
        refine x_iload_n C 1 rfl rfl dX12_shares_45 ?_
        refine x_idiv C (by omega) dX12_shares_46 ?_
        refine x_iload_n C 3 rfl rfl dX12_shares_47 ?_
        refine x_iload_n C 2 rfl rfl dX12_shares_48 ?_
        have hm1 := Int.emod_nonneg m (show n ≠ 0 by omega)
        have hm2 := Int.emod_lt_of_pos m (show 0 < n by omega)
        refine x_iload_n C 1 rfl rfl dX12_shares_49 ?_
        refine x_irem C (by omega) dX12_shares_50 ?_
        have LP59 : ∀ (s0_59 : Int), (s0_59 = (if i < m % n then 1 else 0)) → Wx X 0 0 (WM X.γ a mh mn mkd mfg mag mpo mwy mdy mhw mkk mkf mrs mrm mrw 0 0 mgr mwa mre mpl mib msn mpn mlo mtl mke mim mhi mp0 mtk mki mun msd mbe) 59 [(0, .ref (a 0)), (1, .int (iN (n))), (2, .int (iN (m))), (3, .int (iN (i)))] [.int (iN (s0_59)), .int (iN (m / n))] := by
          intro s0_59 es0_59
          refine x_iadd C dX12_shares_59 ?_
          exact hret _ _ _ _ dX12_shares_60 rfl ⟨(by unfold q_shares; omega), Wk.mk⟩
        refine x_icmp_ge C 58 (by decide) (by omega) dX12_shares_51 (fun c_51 => ?_) (fun c_51 => ?_)
        · refine x_iconst (v := 0) C dX12_shares_58 ?_
          exact LP59 _ (by omega)
        · refine x_iconst (v := 0) C dX12_shares_54 ?_
          refine x_goto C 59 (by decide) dX12_shares_55 ?_
          exact LP59 _ (by omega)
      · refine x_iconst (v := 0) C dX12_shares_42 ?_
        exact hret _ _ _ _ dX12_shares_43 rfl ⟨(by unfold q_shares; omega), Wk.mk⟩
end HSM2ac
