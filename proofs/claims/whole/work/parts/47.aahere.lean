section HREAaa
theorem in_X12_here_X12 : ∀ w ∈ u_ws RX12 TX12 34, w ∈ wsX12_here := by decide +kernel
theorem ok_X12_here : okY yX12_here 0 := by decide +kernel
def rmX12_here : Room := { frames := 0, cells := 0, slots := 0, locals := 0 }
set_option maxRecDepth 100000 in
set_option maxHeartbeats 400000 in
theorem c_X12_here (l : Launch) (γ : GX) (a : Nat → Nat) (mh : Int → Int) (mn : Int) (mkd : Int → Int) (mfg : Int → Int) (mag : Int → Int) (mpo : Int → Int) (mwy : Int → Int) (mdy : Int) (mhw : Int → Int) (mkk : Int → Int) (mkf : Int → Int) (mrs : Int → Int) (mrm : Int → Int) (mrw : Int → Int) (mth : Int) (maw : Int) (mgr : Int → Int) (mwa : Int → Int) (mre : Int) (mpl : Int) (mib : Int) (msn : Int) (mpn : Int → Int) (mlo : Int → Int) (mtl : Int → Int) (mke : Int → Int) (mim : Int → Int) (mhi : Int) (mp0 : Int) (mtk : Int) (mki : Value) (mun : Int → Int) (msd : Int) (mbe : Int → Int) (hM : WFm mn mh mkd mfg mag mpo mwy mhw mkk mkf mrs mrm mrw) (h0_ : 0 ≤ mre ∧ mre ≤ 7) (h1_ : 0 ≤ mpl ∧ mpl < 1000) : MI l γ yX12_here wsX12_here rmX12_here [.ref (a 0)] (WM γ a mh mn mkd mfg mag mpo mwy mdy mhw mkk mkf mrs mrm mrw mth maw mgr mwa mre mpl mib msn mpn mlo mtl mke mim mhi mp0 mtk mki mun msd mbe) (fun r_ w_ => r_ = (if mpl < mrm mre then mrw (100 * mre + mpl) else -999) ∧ w_ = (WM γ a mh mn mkd mfg mag mpo mwy mdy mhw mkk mkf mrs mrm mrw mth maw mgr mwa mre mpl mib msn mpn mlo mtl mke mim mhi mp0 mtk mki mun msd mbe)) 0 0 := by
  refine MI.of (cc := cX12_here) (maxL := 1) (rt := .int) RX12 rfl (by decide +kernel) rfl (Nat.le_of_ble_eq_true rfl) ?_
  intro X C hγ hl hnm hret
  subst hγ
  have hMn := WFm.n hM
  have hrm := WFm.rm hM mre
  show Wx X 0 0 (WM X.γ a mh mn mkd mfg mag mpo mwy mdy mhw mkk mkf mrs mrm mrw mth maw mgr mwa mre mpl mib msn mpn mlo mtl mke mim mhi mp0 mtk mki mun msd mbe) 0 [(0, .ref (a 0))] []
  refine x_aload_n C 0 rfl rfl dX12_here_0 ?_
  refine x_get C in_X12_here_X12 0 rfl rfl 19 (by decide) (List.mem_of_getElem? (i := 1) rfl) rfl (v := .int (iN (mpl))) rfl dX12_here_1 ?_
  refine x_aload_n C 0 rfl rfl dX12_here_4 ?_
  refine x_get C in_X12_here_X12 0 rfl rfl 12 (by decide) (List.mem_of_getElem? (i := 2) rfl) rfl (v := .ref (a 11)) rfl dX12_here_5 ?_
  refine x_aload_n C 0 rfl rfl dX12_here_8 ?_
  refine x_get C in_X12_here_X12 0 rfl rfl 18 (by decide) (List.mem_of_getElem? (i := 3) rfl) rfl (v := .int (iN (mre))) rfl dX12_here_9 ?_
  refine x_iaload C (f := mrm) 11 rfl (by omega) rfl dX12_here_12 ?_
  have b200 := WFm.rm hM (mre)
  refine x_icmp_ge C 37 (by decide) (by omega) dX12_here_13 (fun c_13 => ?_) (fun c_13 => ?_)
  · refine x_sipush C (-999) (by decide) dX12_here_37 ?_
    exact hret _ _ _ _ dX12_here_40 rfl ⟨(by omega), rfl⟩
  · refine x_aload_n C 0 rfl rfl dX12_here_16 ?_
    refine x_get C in_X12_here_X12 0 rfl rfl 13 (by decide) (List.mem_of_getElem? (i := 4) rfl) rfl (v := .ref (a 12)) rfl dX12_here_17 ?_
    refine x_bipush C (100) (by decide) dX12_here_20 ?_
    refine x_aload_n C 0 rfl rfl dX12_here_22 ?_
    refine x_get C in_X12_here_X12 0 rfl rfl 18 (by decide) (List.mem_of_getElem? (i := 3) rfl) rfl (v := .int (iN (mre))) rfl dX12_here_23 ?_
    refine x_imul C dX12_here_26 ?_
    refine x_aload_n C 0 rfl rfl dX12_here_27 ?_
    refine x_get C in_X12_here_X12 0 rfl rfl 19 (by decide) (List.mem_of_getElem? (i := 1) rfl) rfl (v := .int (iN (mpl))) rfl dX12_here_28 ?_
    refine x_iadd C dX12_here_31 ?_
    refine x_laload C (f := mrw) 12 rfl (by omega) rfl dX12_here_32 ?_
    have b201 := WFm.rw hM ((100 * mre) + mpl)
    refine x_l2i C (mrw ((100 * mre) + mpl)) (jN_l2i (by omega)) dX12_here_33 ?_
    refine x_goto C 40 (by decide) dX12_here_34 ?_
    exact hret _ _ _ _ dX12_here_40 rfl ⟨(by omega), rfl⟩
end HREAaa
