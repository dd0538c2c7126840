section HSM2ah
theorem in_X12_restore_X12 : ∀ w ∈ u_ws RX12 TX12 34, w ∈ wsX12_restore := by decide +kernel
theorem ok_X12_restore : okY yX12_restore 0 := by decide +kernel
def rmX12_restore : Room := { frames := 2, cells := 0, slots := 0, locals := 44 }
set_option maxRecDepth 100000 in
set_option maxHeartbeats 400000 in
theorem c_X12_restore (l : Launch) (γ : GX) (a : Nat → Nat) (mh : Int → Int) (mn : Int) (mkd : Int → Int) (mfg : Int → Int) (mag : Int → Int) (mpo : Int → Int) (mwy : Int → Int) (mdy : Int) (mhw : Int → Int) (mkk : Int → Int) (mkf : Int → Int) (mrs : Int → Int) (mrm : Int → Int) (mrw : Int → Int) (mth : Int) (mgr : Int → Int) (mwa : Int → Int) (mre : Int) (mpl : Int) (mib : Int) (msn : Int) (mpn : Int → Int) (mlo : Int → Int) (mtl : Int → Int) (mke : Int → Int) (mhi : Int) (mp0 : Int) (mtk : Int) (mki : Value) (mun : Int → Int) (msd : Int) (mbe : Int → Int) (h0 : Int → Int) (n0 dy0 : Int) (kd0 fg0 ag0 po0 wy0 : Int → Int) (h0_ : mhi = 0 ∨ mhi = 1) : MI l γ yX12_restore wsX12_restore rmX12_restore [.ref (a 0)] (WM γ a mh mn mkd mfg mag mpo mwy mdy mhw mkk mkf mrs mrm mrw mth 0 mgr mwa mre mpl mib msn mpn mlo mtl mke (pck h0 n0 dy0 kd0 fg0 ag0 po0 wy0) mhi mp0 mtk mki mun msd mbe) (fun r_ w_ => (mhi = 1 ∧ r_ = dy0 ∧ Wk γ a h0 n0 kd0 fg0 ag0 po0 wy0 dy0 mhw mkk mkf mrs mrm mrw 0 (pck h0 n0 dy0 kd0 fg0 ag0 po0 wy0) mhi w_) ∨ (mhi = 0 ∧ r_ = -3 ∧ Wk γ a mh mn mkd mfg mag mpo mwy mdy mhw mkk mkf mrs mrm mrw 0 (pck h0 n0 dy0 kd0 fg0 ag0 po0 wy0) mhi w_)) 0 0 := by
  refine MI.of (cc := cX12_restore) (maxL := 1) (rt := .int) RX12 rfl (by decide +kernel) rfl (Nat.le_of_ble_eq_true rfl) ?_
  intro X C hγ hl hnm hret
  subst hγ
  show Wx X 0 0 (WM X.γ a mh mn mkd mfg mag mpo mwy mdy mhw mkk mkf mrs mrm mrw mth 0 mgr mwa mre mpl mib msn mpn mlo mtl mke (pck h0 n0 dy0 kd0 fg0 ag0 po0 wy0) mhi mp0 mtk mki mun msd mbe) 0 [(0, .ref (a 0))] []
  refine x_aload_n C 0 rfl rfl dX12_restore_0 ?_
  refine x_iconst (v := 0) C dX12_restore_1 ?_
  refine x_put C in_X12_restore_X12 tyX12 tyX12_ok nmX12 0 rfl rfl 14 (by decide) (List.mem_of_getElem? (i := 1) rfl) rfl rfl rfl rfl rfl (Nat.le_of_ble_eq_true rfl) (WM X.γ a mh mn mkd mfg mag mpo mwy mdy mhw mkk mkf mrs mrm mrw 0 0 mgr mwa mre mpl mib msn mpn mlo mtl mke (pck h0 n0 dy0 kd0 fg0 ag0 po0 wy0) mhi mp0 mtk mki mun msd mbe) rfl dX12_restore_2 ?_
  refine x_aload_n C 0 rfl rfl dX12_restore_5 ?_
  refine x_get C in_X12_restore_X12 0 rfl rfl 27 (by decide) (List.mem_of_getElem? (i := 2) rfl) rfl (v := .int (iN (mhi))) rfl dX12_restore_6 ?_
  refine x_if_ne C 15 (by decide) (by omega) dX12_restore_9 (fun c_9 => ?_) (fun c_9 => ?_)
  · refine x_aload_n C 0 rfl rfl dX12_restore_15 ?_
    refine x_aload_n C 0 rfl rfl dX12_restore_16 ?_
    refine x_get C in_X12_restore_X12 0 rfl rfl 26 (by decide) (List.mem_of_getElem? (i := 3) rfl) rfl (v := .ref (a 19)) rfl dX12_restore_17 ?_
    refine x_iconst (v := 0) C dX12_restore_20 ?_
    refine x_V_V C (As := [.ref (a 19), .int (iN (0))]) (rest := []) 2 0 rfl rfl gX12_restore_X12_carryAll rfl (c_X12_carryAll_im0 _ _ a mh mn mkd mfg mag mpo mwy mdy mhw mkk mkf mrs mrm mrw 0 0 mgr mwa mre mpl mib msn mpn mlo mtl mke (pck h0 n0 dy0 kd0 fg0 ag0 po0 wy0) mhi mp0 mtk mki mun msd mbe h0 n0 dy0 kd0 fg0 ag0 po0 wy0 (fun j h1 h2 => rfl)) rfl ok_X12_carryAll rfl rfl rfl rfl dX12_restore_21 (fun w1 hp => ?_)
    obtain rfl := hp
    refine x_aload_n C 0 rfl rfl dX12_restore_24 ?_
    refine x_get C in_X12_restore_X12 0 rfl rfl 7 (by decide) (List.mem_of_getElem? (i := 4) rfl) rfl (v := .int (iN (dy0))) rfl dX12_restore_25 ?_
    exact hret _ _ _ _ dX12_restore_28 rfl (Or.inl ⟨(by omega), rfl, Wk.mk⟩)
  · refine x_bipush C (-3) (by decide) dX12_restore_12 ?_
    exact hret _ _ _ _ dX12_restore_14 rfl (Or.inr ⟨(by omega), rfl, Wk.mk⟩)
end HSM2ah
