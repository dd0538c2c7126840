section HSM2ao
theorem in_X12_drawBelow_X12 : ∀ w ∈ u_ws RX12 TX12 34, w ∈ wsX12_drawBelow := by decide +kernel
theorem ok_X12_drawBelow : okY yX12_drawBelow 1 := by decide +kernel
def rmX12_drawBelow : Room := { frames := 0, cells := 0, slots := 0, locals := 0 }
set_option maxRecDepth 100000 in
set_option maxHeartbeats 400000 in
theorem c_X12_drawBelow (l : Launch) (γ : GX) (a : Nat → Nat) (mh : Int → Int) (mn : Int) (mkd : Int → Int) (mfg : Int → Int) (mag : Int → Int) (mpo : Int → Int) (mwy : Int → Int) (mdy : Int) (mhw : Int → Int) (mkk : Int → Int) (mkf : Int → Int) (mrs : Int → Int) (mrm : Int → Int) (mrw : Int → Int) (mth : Int) (maw : Int) (mgr : Int → Int) (mwa : Int → Int) (mre : Int) (mpl : Int) (mib : Int) (msn : Int) (mpn : Int → Int) (mlo : Int → Int) (mtl : Int → Int) (mke : Int → Int) (mim : Int → Int) (mhi : Int) (mp0 : Int) (mtk : Int) (mki : Value) (mun : Int → Int) (msd : Int) (mbe : Int → Int) (m : Int) (h0_ : 0 < m ∧ m ≤ 100) : MI l γ yX12_drawBelow wsX12_drawBelow rmX12_drawBelow [.ref (a 0), .int (iN (m))] (WM γ a mh mn mkd mfg mag mpo mwy mdy mhw mkk mkf mrs mrm mrw mth maw mgr mwa mre mpl mib msn mpn mlo mtl mke mim mhi mp0 mtk mki mun msd mbe) (fun r_ w_ => r_ = lcr msd m ∧ w_ = (WM γ a mh mn mkd mfg mag mpo mwy mdy mhw mkk mkf mrs mrm mrw mth maw mgr mwa mre mpl mib msn mpn mlo mtl mke mim mhi mp0 mtk mki mun (lcg msd) mbe)) 0 0 := by
  refine MI.of (cc := cX12_drawBelow) (maxL := 2) (rt := .int) RX12 rfl (by decide +kernel) rfl (Nat.le_of_ble_eq_true rfl) ?_
  intro X C hγ hl hnm hret
  subst hγ
  show Wx X 0 0 (WM X.γ a mh mn mkd mfg mag mpo mwy mdy mhw mkk mkf mrs mrm mrw mth maw mgr mwa mre mpl mib msn mpn mlo mtl mke mim mhi mp0 mtk mki mun msd mbe) 0 [(0, .ref (a 0)), (1, .int (iN (m)))] []
  refine x_aload_n C 0 rfl rfl dX12_drawBelow_0 ?_
  refine x_aload_n C 0 rfl rfl dX12_drawBelow_1 ?_
  refine x_get C in_X12_drawBelow_X12 0 rfl rfl 32 (by decide) (List.mem_of_getElem? (i := 1) rfl) rfl (v := .int (iN (msd))) rfl dX12_drawBelow_2 ?_
  refine x_ldcw C (1103515245) (List.mem_of_getElem? (i := 2) rfl) (by decide) dX12_drawBelow_5 ?_
  refine x_imul C dX12_drawBelow_8 ?_
  refine x_sipush C (12345) (by decide) dX12_drawBelow_9 ?_
  refine x_iadd C dX12_drawBelow_12 ?_
  refine x_put C in_X12_drawBelow_X12 tyX12 tyX12_ok nmX12 0 rfl rfl 32 (by decide) (List.mem_of_getElem? (i := 1) rfl) rfl rfl rfl rfl rfl (Nat.le_of_ble_eq_true rfl) (WM X.γ a mh mn mkd mfg mag mpo mwy mdy mhw mkk mkf mrs mrm mrw mth maw mgr mwa mre mpl mib msn mpn mlo mtl mke mim mhi mp0 mtk mki mun ((msd * 1103515245) + 12345) mbe) rfl dX12_drawBelow_13 ?_
  refine x_aload_n C 0 rfl rfl dX12_drawBelow_16 ?_
  refine x_get C in_X12_drawBelow_X12 0 rfl rfl 32 (by decide) (List.mem_of_getElem? (i := 1) rfl) rfl (v := .int (iN ((msd * 1103515245) + 12345))) rfl dX12_drawBelow_17 ?_
  refine x_ldcw C (2147483647) (List.mem_of_getElem? (i := 3) rfl) (by decide) dX12_drawBelow_20 ?_
  refine x_iand C (((msd * 1103515245) + 12345) % 2147483648) (iN_and31 _) dX12_drawBelow_23 ?_
  refine x_ldcw C (65536) (List.mem_of_getElem? (i := 4) rfl) (by decide) dX12_drawBelow_24 ?_
  refine x_idiv C (by omega) dX12_drawBelow_27 ?_
  refine x_iload_n C 1 rfl rfl dX12_drawBelow_28 ?_
  refine x_irem C (by omega) dX12_drawBelow_29 ?_
  exact hret _ _ _ _ dX12_drawBelow_30 rfl ⟨rfl, rfl⟩
end HSM2ao
