section HSM2ag
theorem in_X12_image_X12 : ∀ w ∈ u_ws RX12 TX12 34, w ∈ wsX12_image := by decide +kernel
theorem ok_X12_image : okY yX12_image 0 := by decide +kernel
def rmX12_image : Room := { frames := 2, cells := 0, slots := 0, locals := 44 }
set_option maxRecDepth 100000 in
set_option maxHeartbeats 400000 in
theorem c_X12_image (l : Launch) (γ : GX) (a : Nat → Nat) (mh : Int → Int) (mn : Int) (mkd : Int → Int) (mfg : Int → Int) (mag : Int → Int) (mpo : Int → Int) (mwy : Int → Int) (mdy : Int) (mhw : Int → Int) (mkk : Int → Int) (mkf : Int → Int) (mrs : Int → Int) (mrm : Int → Int) (mrw : Int → Int) (mth : Int) (mgr : Int → Int) (mwa : Int → Int) (mre : Int) (mpl : Int) (mib : Int) (msn : Int) (mpn : Int → Int) (mlo : Int → Int) (mtl : Int → Int) (mke : Int → Int) (mim : Int → Int) (mhi : Int) (mp0 : Int) (mtk : Int) (mki : Value) (mun : Int → Int) (msd : Int) (mbe : Int → Int) : MI l γ yX12_image wsX12_image rmX12_image [.ref (a 0)] (WM γ a mh mn mkd mfg mag mpo mwy mdy mhw mkk mkf mrs mrm mrw mth 0 mgr mwa mre mpl mib msn mpn mlo mtl mke mim mhi mp0 mtk mki mun msd mbe) (fun r_ w_ => r_ = mdy ∧ Wk γ a mh mn mkd mfg mag mpo mwy mdy mhw mkk mkf mrs mrm mrw 0 (pck mh mn mdy mkd mfg mag mpo mwy) 1 w_) 0 0 := by
  refine MI.of (cc := cX12_image) (maxL := 1) (rt := .int) RX12 rfl (by decide +kernel) rfl (Nat.le_of_ble_eq_true rfl) ?_
  intro X C hγ hl hnm hret
  subst hγ
  show Wx X 0 0 (WM X.γ a mh mn mkd mfg mag mpo mwy mdy mhw mkk mkf mrs mrm mrw mth 0 mgr mwa mre mpl mib msn mpn mlo mtl mke mim mhi mp0 mtk mki mun msd mbe) 0 [(0, .ref (a 0))] []
  refine x_aload_n C 0 rfl rfl dX12_image_0 ?_
  refine x_iconst (v := 0) C dX12_image_1 ?_
  refine x_put C in_X12_image_X12 tyX12 tyX12_ok nmX12 0 rfl rfl 14 (by decide) (List.mem_of_getElem? (i := 1) rfl) rfl rfl rfl rfl rfl (Nat.le_of_ble_eq_true rfl) (WM X.γ a mh mn mkd mfg mag mpo mwy mdy mhw mkk mkf mrs mrm mrw 0 0 mgr mwa mre mpl mib msn mpn mlo mtl mke mim mhi mp0 mtk mki mun msd mbe) rfl dX12_image_2 ?_
  refine x_aload_n C 0 rfl rfl dX12_image_5 ?_
  refine x_iconst (v := 0) C dX12_image_6 ?_
  refine x_put C in_X12_image_X12 tyX12 tyX12_ok nmX12 0 rfl rfl 27 (by decide) (List.mem_of_getElem? (i := 2) rfl) rfl rfl rfl (nar_z (by decide)) (fits_z (by decide)) (Nat.le_of_ble_eq_true rfl) (WM X.γ a mh mn mkd mfg mag mpo mwy mdy mhw mkk mkf mrs mrm mrw 0 0 mgr mwa mre mpl mib msn mpn mlo mtl mke mim 1 mp0 mtk mki mun msd mbe) rfl dX12_image_7 ?_
  refine x_aload_n C 0 rfl rfl dX12_image_10 ?_
  refine x_aload_n C 0 rfl rfl dX12_image_11 ?_
  refine x_get C in_X12_image_X12 0 rfl rfl 26 (by decide) (List.mem_of_getElem? (i := 3) rfl) rfl (v := .ref (a 19)) rfl dX12_image_12 ?_
  refine x_iconst (v := 0) C dX12_image_15 ?_
  refine x_V_V C (As := [.ref (a 19), .int (iN (1))]) (rest := []) 2 0 rfl rfl gX12_image_X12_carryAll rfl (c_X12_carryAll_im1 _ _ a mh mn mkd mfg mag mpo mwy mdy mhw mkk mkf mrs mrm mrw 0 0 mgr mwa mre mpl mib msn mpn mlo mtl mke mim 1 mp0 mtk mki mun msd mbe) rfl ok_X12_carryAll rfl rfl rfl rfl dX12_image_16 (fun w1 hp => ?_)
  obtain rfl := hp
  refine x_aload_n C 0 rfl rfl dX12_image_19 ?_
  refine x_get C in_X12_image_X12 0 rfl rfl 7 (by decide) (List.mem_of_getElem? (i := 4) rfl) rfl (v := .int (iN (mdy))) rfl dX12_image_20 ?_
  exact hret _ _ _ _ dX12_image_23 rfl ⟨rfl, Wk.mk⟩
end HSM2ag
