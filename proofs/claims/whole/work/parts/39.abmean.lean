section HSM2ab
theorem in_X12_mean_X12 : ∀ w ∈ u_ws RX12 TX12 34, w ∈ wsX12_mean := by decide +kernel
theorem ok_X12_mean : okY yX12_mean 1 := by decide +kernel
def rmX12_mean : Room := { frames := 4, cells := 0, slots := 0, locals := 89 }
set_option maxRecDepth 100000 in
set_option maxHeartbeats 400000 in
theorem c_X12_mean (l : Launch) (γ : GX) (a : Nat → Nat) (mh : Int → Int) (mn : Int) (mkd : Int → Int) (mfg : Int → Int) (mag : Int → Int) (mpo : Int → Int) (mwy : Int → Int) (mdy : Int) (mhw : Int → Int) (mkk : Int → Int) (mkf : Int → Int) (mrs : Int → Int) (mrm : Int → Int) (mrw : Int → Int) (mth : Int) (mgr : Int → Int) (mwa : Int → Int) (mre : Int) (mpl : Int) (mib : Int) (msn : Int) (mpn : Int → Int) (mlo : Int → Int) (mtl : Int → Int) (mke : Int → Int) (mim : Int → Int) (mhi : Int) (mp0 : Int) (mtk : Int) (mki : Value) (mun : Int → Int) (msd : Int) (mbe : Int → Int) (hM : WFm mn mh mkd mfg mag mpo mwy mhw mkk mkf mrs mrm mrw) (w : Int) (h0_ : -2147483648 ≤ w ∧ w < 2147483648) : MJ l γ yX12_mean wsX12_mean rmX12_mean [.ref (a 0), .int (iN (w))] (WM γ a mh mn mkd mfg mag mpo mwy mdy mhw mkk mkf mrs mrm mrw mth 0 mgr mwa mre mpl mib msn mpn mlo mtl mke mim mhi mp0 mtk mki mun msd mbe) (fun r_ w_ => r_ = q_mean (Lc mh mn mdy mkd mfg mag mpo mwy) w ∧ Wk γ a mh mn mkd mfg mag mpo mwy mdy mhw mkk mkf mrs mrm mrw 0 mim mhi w_) 0 0 := by
  refine MJ.of (cc := cX12_mean) (maxL := 2) RX12 rfl (by decide +kernel) rfl (Nat.le_of_ble_eq_true rfl) ?_
  intro X C hγ hl hnm hret
  subst hγ
  have hMn := WFm.n hM
  show Wx X 0 0 (WM X.γ a mh mn mkd mfg mag mpo mwy mdy mhw mkk mkf mrs mrm mrw mth 0 mgr mwa mre mpl mib msn mpn mlo mtl mke mim mhi mp0 mtk mki mun msd mbe) 0 [(0, .ref (a 0)), (1, .int (iN (w)))] []
  refine x_aload_n C 0 rfl rfl dX12_mean_0 ?_
  refine x_iconst (v := 0) C dX12_mean_1 ?_
  refine x_put C in_X12_mean_X12 tyX12 tyX12_ok nmX12 0 rfl rfl 14 (by decide) (List.mem_of_getElem? (i := 1) rfl) rfl rfl rfl rfl rfl (Nat.le_of_ble_eq_true rfl) (WM X.γ a mh mn mkd mfg mag mpo mwy mdy mhw mkk mkf mrs mrm mrw 0 0 mgr mwa mre mpl mib msn mpn mlo mtl mke mim mhi mp0 mtk mki mun msd mbe) rfl dX12_mean_2 ?_
  refine x_iload_n C 1 rfl rfl dX12_mean_5 ?_
  refine x_i2l C (by omega) dX12_mean_6 ?_
  refine x_lconst C 0 rfl dX12_mean_7 ?_
  refine x_lconst C 1 rfl dX12_mean_8 ?_
  refine x_S_I C (As := [.long (jN (w)), .long (jN (0)), .long (jN (1))]) (rest := []) 3 gX12_mean_X12_in (c_X12_in _ _ (WM X.γ a mh mn mkd mfg mag mpo mwy mdy mhw mkk mkf mrs mrm mrw 0 0 mgr mwa mre mpl mib msn mpn mlo mtl mke mim mhi mp0 mtk mki mun msd mbe) (w) (0) (1) (by omega) (by omega) (by omega)) rfl ok_X12_in rfl rfl rfl rfl dX12_mean_9 (fun r w1 hp => ?_)
  obtain ⟨rfl, rfl⟩ := hp
  refine x_ifeq_bz C 30 (by decide) dX12_mean_12 (fun c_12 => ?_) (fun c_12 => ?_)
  · refine x_ldc2 C (1000000001) (List.mem_of_getElem? (i := 3) rfl) (by decide) dX12_mean_30 ?_
    exact hret _ _ _ _ dX12_mean_33 ⟨(by unfold q_mean; rw [if_neg (show ¬ (0 ≤ w ∧ w ≤ 1) by omega)]), Wk.mk⟩
  · refine x_aload_n C 0 rfl rfl dX12_mean_15 ?_
    refine x_V_I C (As := []) (rest := []) 0 0 rfl rfl gX12_mean_X12_allGround rfl (c_X12_allGround _ _ a mh mn mkd mfg mag mpo mwy mdy mhw mkk mkf mrs mrm mrw 0 mgr mwa mre mpl mib msn mpn mlo mtl mke mim mhi mp0 mtk mki mun msd mbe hM) rfl ok_X12_allGround rfl rfl rfl rfl dX12_mean_16 (fun r w1 hp => ?_)
    obtain ⟨rfl, rfl⟩ := hp
    show Wx X 0 0 (WM X.γ a mh mn mkd mfg mag mpo mwy mdy mhw mkk mkf mrs mrm mrw 0 0 (Ct.g (Lc mh mn mdy mkd mfg mag mpo mwy)) mwa mre mpl mib msn mpn mlo mtl mke mim mhi mp0 mtk mki mun msd mbe) 19 [(0, .ref (a 0)), (1, .int (iN (w)))] [.int (iN (sumz (Ct.g (Lc mh mn mdy mkd mfg mag mpo mwy)) 15))]
    have b143 := sumz_b (m := 20) (f := Ct.g (Lc mh mn mdy mkd mfg mag mpo mwy)) (WFc.g (WFm.L hM mdy)) 15
    refine x_i2l C (by omega) dX12_mean_19 ?_
    refine x_ldc2 C (15) (List.mem_of_getElem? (i := 2) rfl) (by decide) dX12_mean_20 ?_
    refine x_iload_n C 1 rfl rfl dX12_mean_23 ?_
    refine x_S_J C (As := [.long (jN (sumz (Ct.g (Lc mh mn mdy mkd mfg mag mpo mwy)) 15)), .long (jN ((15 : Int))), .int (iN (w))]) (rest := []) 3 gX12_mean_X12_partOf (c_X12_partOf _ _ (WM X.γ a mh mn mkd mfg mag mpo mwy mdy mhw mkk mkf mrs mrm mrw 0 0 (Ct.g (Lc mh mn mdy mkd mfg mag mpo mwy)) mwa mre mpl mib msn mpn mlo mtl mke mim mhi mp0 mtk mki mun msd mbe) (sumz (Ct.g (Lc mh mn mdy mkd mfg mag mpo mwy)) 15) ((15 : Int)) (w) (by omega) (by omega) (by omega)) rfl ok_X12_partOf rfl rfl rfl rfl dX12_mean_24 (fun r w1 hp => ?_)
    obtain ⟨rfl, rfl⟩ := hp
    show Wx X 0 0 (WM X.γ a mh mn mkd mfg mag mpo mwy mdy mhw mkk mkf mrs mrm mrw 0 0 (Ct.g (Lc mh mn mdy mkd mfg mag mpo mwy)) mwa mre mpl mib msn mpn mlo mtl mke mim mhi mp0 mtk mki mun msd mbe) 27 [(0, .ref (a 0)), (1, .int (iN (w)))] [.long (jN (if (sumz (Ct.g (Lc mh mn mdy mkd mfg mag mpo mwy)) 15) = 0 then w else if w = 0 then (sumz (Ct.g (Lc mh mn mdy mkd mfg mag mpo mwy)) 15) / (Nat.gcd (sumz (Ct.g (Lc mh mn mdy mkd mfg mag mpo mwy)) 15).toNat ((15 : Int)).toNat : Int) else ((15 : Int)) / (Nat.gcd (sumz (Ct.g (Lc mh mn mdy mkd mfg mag mpo mwy)) 15).toNat ((15 : Int)).toNat : Int)))]
    refine x_goto C 33 (by decide) dX12_mean_27 ?_
    exact hret _ _ _ _ dX12_mean_33 ⟨(by unfold q_mean; rw [if_pos (show 0 ≤ w ∧ w ≤ 1 by omega)]; rfl), Wk.mk⟩
end HSM2ab
