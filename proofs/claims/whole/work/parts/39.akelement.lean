section HSM2ak
theorem in_X12_element_X12 : ∀ w ∈ u_ws RX12 TX12 34, w ∈ wsX12_element := by decide +kernel
theorem ok_X12_element : okY yX12_element 2 := by decide +kernel
def rmX12_element : Room := { frames := 2, cells := 0, slots := 0, locals := 46 }
set_option maxRecDepth 100000 in
set_option maxHeartbeats 400000 in
theorem c_X12_element (l : Launch) (γ : GX) (a : Nat → Nat) (mh : Int → Int) (mn : Int) (mkd : Int → Int) (mfg : Int → Int) (mag : Int → Int) (mpo : Int → Int) (mwy : Int → Int) (mdy : Int) (mhw : Int → Int) (mkk : Int → Int) (mkf : Int → Int) (mrs : Int → Int) (mrm : Int → Int) (mrw : Int → Int) (mth : Int) (mgr : Int → Int) (mwa : Int → Int) (mre : Int) (mpl : Int) (mib : Int) (msn : Int) (mpn : Int → Int) (mlo : Int → Int) (mtl : Int → Int) (mke : Int → Int) (mim : Int → Int) (mhi : Int) (mp0 : Int) (mtk : Int) (mki : Value) (mun : Int → Int) (msd : Int) (mbe : Int → Int) (hM : WFm mn mh mkd mfg mag mpo mwy mhw mkk mkf mrs mrm mrw) (d : Int) (i : Int) (h0_ : -2147483648 ≤ d ∧ d < 2147483648) (h1_ : -2147483648 ≤ i ∧ i < 2147483648) : MJ l γ yX12_element wsX12_element rmX12_element [.ref (a 0), .int (iN (d)), .int (iN (i))] (WM γ a mh mn mkd mfg mag mpo mwy mdy mhw mkk mkf mrs mrm mrw mth 0 mgr mwa mre mpl mib msn mpn mlo mtl mke mim mhi mp0 mtk mki mun msd mbe) (fun r_ w_ => r_ = (if (if 0 ≤ d ∧ d ≤ 7 then (if mhw d = 2 ∧ 0 ≤ i ∧ i ≤ mrm d - 1 then 0 else 2) else 1 : Int) = 0 then mrw (100 * d + i) else 0) ∧ Wk γ a mh mn mkd mfg mag mpo mwy mdy mhw mkk mkf mrs mrm mrw (if 0 ≤ d ∧ d ≤ 7 then (if mhw d = 2 ∧ 0 ≤ i ∧ i ≤ mrm d - 1 then 0 else 2) else 1) mim mhi w_) 0 0 := by
  refine MJ.of (cc := cX12_element) (maxL := 4) RX12 rfl (by decide +kernel) rfl (Nat.le_of_ble_eq_true rfl) ?_
  intro X C hγ hl hnm hret
  subst hγ
  have hMn := WFm.n hM
  have hrm := WFm.rm hM d
  show Wx X 0 0 (WM X.γ a mh mn mkd mfg mag mpo mwy mdy mhw mkk mkf mrs mrm mrw mth 0 mgr mwa mre mpl mib msn mpn mlo mtl mke mim mhi mp0 mtk mki mun msd mbe) 0 [(0, .ref (a 0)), (1, .int (iN (d))), (2, .int (iN (i)))] []
  refine x_aload_n C 0 rfl rfl dX12_element_0 ?_
  refine x_iload_n C 1 rfl rfl dX12_element_1 ?_
  refine x_V_I C (As := [.int (iN (d))]) (rest := []) 1 0 rfl rfl gX12_element_X12_wrongRow rfl (c_X12_wrongRow _ _ a mh mn mkd mfg mag mpo mwy mdy mhw mkk mkf mrs mrm mrw mth 0 mgr mwa mre mpl mib msn mpn mlo mtl mke mim mhi mp0 mtk mki mun msd mbe hM (d) (by omega)) rfl ok_X12_wrongRow rfl rfl rfl rfl dX12_element_2 (fun r w1 hp => ?_)
  obtain ⟨rfl, rfl⟩ := hp
  show Wx X 0 0 (WM X.γ a mh mn mkd mfg mag mpo mwy mdy mhw mkk mkf mrs mrm mrw mth 0 mgr mwa mre mpl mib msn mpn mlo mtl mke mim mhi mp0 mtk mki mun msd mbe) 5 [(0, .ref (a 0)), (1, .int (iN (d))), (2, .int (iN (i)))] [.int (iN (if 0 ≤ d ∧ d ≤ 7 then (if mhw d = 0 then -11 else if mhw d = 2 then 0 else -12) else -1))]
  refine x_istore_n C [(3, .int (iN (if 0 ≤ d ∧ d ≤ 7 then (if mhw d = 0 then -11 else if mhw d = 2 then 0 else -12) else -1))), (0, .ref (a 0)), (1, .int (iN (d))), (2, .int (iN (i)))] rfl (by decide) rfl dX12_element_5 ?_
  refine x_aload_n C 1 rfl rfl dX12_element_6 ?_
  refine x_iload_n C 0 rfl rfl dX12_element_7 ?_
  refine x_iconst (v := 0) C dX12_element_8 ?_
  have LP43 : ∀ (s0_43 : Int), (s0_43 = (if 0 ≤ d ∧ d ≤ 7 then (if mhw d = 2 ∧ 0 ≤ i ∧ i ≤ mrm d - 1 then 0 else 2) else 1)) → Wx X 0 0 (WM X.γ a mh mn mkd mfg mag mpo mwy mdy mhw mkk mkf mrs mrm mrw mth 0 mgr mwa mre mpl mib msn mpn mlo mtl mke mim mhi mp0 mtk mki mun msd mbe) 43 [(3, .int (iN (if 0 ≤ d ∧ d ≤ 7 then (if mhw d = 0 then -11 else if mhw d = 2 then 0 else -12) else -1))), (0, .ref (a 0)), (1, .int (iN (d))), (2, .int (iN (i)))] [.int (iN (s0_43)), .ref (a 0)] := by
    intro s0_43 es0_43
    refine x_put C in_X12_element_X12 tyX12 tyX12_ok nmX12 0 rfl rfl 14 (by decide) (List.mem_of_getElem? (i := 2) rfl) rfl rfl rfl rfl rfl (Nat.le_of_ble_eq_true rfl) (WM X.γ a mh mn mkd mfg mag mpo mwy mdy mhw mkk mkf mrs mrm mrw s0_43 0 mgr mwa mre mpl mib msn mpn mlo mtl mke mim mhi mp0 mtk mki mun msd mbe) rfl dX12_element_43 ?_
    refine x_aload_n C 1 rfl rfl dX12_element_46 ?_
    refine x_get C in_X12_element_X12 0 rfl rfl 14 (by decide) (List.mem_of_getElem? (i := 2) rfl) rfl (v := .int (iN (s0_43))) rfl dX12_element_47 ?_
    refine x_if_le C 57 (by decide) (by omega) dX12_element_50 (fun c_50 => ?_) (fun c_50 => ?_)
    · refine x_aload_n C 1 rfl rfl dX12_element_57 ?_
      refine x_get C in_X12_element_X12 0 rfl rfl 13 (by decide) (List.mem_of_getElem? (i := 3) rfl) rfl (v := .ref (a 12)) rfl dX12_element_58 ?_
      refine x_bipush C (100) (by decide) dX12_element_61 ?_
      refine x_iload_n C 2 rfl rfl dX12_element_63 ?_
      refine x_imul C dX12_element_64 ?_
      refine x_iload_n C 3 rfl rfl dX12_element_65 ?_
      refine x_iadd C dX12_element_66 ?_
      refine x_laload C (f := mrw) 12 rfl (by omega) rfl dX12_element_67 ?_
      have b162 := WFm.rw hM ((100 * d) + i)
      exact hret _ _ _ _ dX12_element_68 ⟨(by rw [← es0_43]; first | rw [if_pos (by omega)] | rw [if_neg (by omega)]), (by rw [← es0_43]; exact Wk.mk)⟩
    · refine x_lconst C 0 rfl dX12_element_53 ?_
      refine x_goto C 68 (by decide) dX12_element_54 ?_
      exact hret _ _ _ _ dX12_element_68 ⟨(by rw [← es0_43]; first | rw [if_pos (by omega)] | rw [if_neg (by omega)]), (by rw [← es0_43]; exact Wk.mk)⟩
  refine x_icmp_ne C 16 (by decide) (by omega) dX12_element_9 (fun c_9 => ?_) (fun c_9 => ?_)
  · refine x_iload_n C 0 rfl rfl dX12_element_16 ?_
    refine x_if_lt C 38 (by decide) (by omega) dX12_element_17 (fun c_17 => ?_) (fun c_17 => ?_)
    · refine x_iconst (v := 0) C dX12_element_38 ?_
      refine x_goto C 43 (by decide) dX12_element_39 ?_
      exact LP43 _ (by omega)
    · refine x_iload_n C 3 rfl rfl dX12_element_20 ?_
      refine x_i2l C (by omega) dX12_element_21 ?_
      refine x_lconst C 0 rfl dX12_element_22 ?_
      refine x_aload_n C 1 rfl rfl dX12_element_23 ?_
      refine x_get C in_X12_element_X12 0 rfl rfl 12 (by decide) (List.mem_of_getElem? (i := 1) rfl) rfl (v := .ref (a 11)) rfl dX12_element_24 ?_
      refine x_iload_n C 2 rfl rfl dX12_element_27 ?_
      refine x_iaload C (f := mrm) 11 rfl (by omega) rfl dX12_element_28 ?_
      have b163 := WFm.rm hM (d)
      refine x_iconst (v := 0) C dX12_element_29 ?_
      refine x_isub C dX12_element_30 ?_
      refine x_i2l C (by omega) dX12_element_31 ?_
      refine x_S_I C (As := [.long (jN (i)), .long (jN (0)), .long (jN ((mrm d) - 1))]) (rest := [.ref (a 0)]) 3 gX12_element_X12_in (c_X12_in _ _ (WM X.γ a mh mn mkd mfg mag mpo mwy mdy mhw mkk mkf mrs mrm mrw mth 0 mgr mwa mre mpl mib msn mpn mlo mtl mke mim mhi mp0 mtk mki mun msd mbe) (i) (0) ((mrm d) - 1) (by omega) (by omega) (by omega)) rfl ok_X12_in rfl rfl rfl rfl dX12_element_32 (fun r w1 hp => ?_)
      obtain ⟨rfl, rfl⟩ := hp
      refine x_ifne_bz C 42 (by decide) dX12_element_35 (fun c_35 => ?_) (fun c_35 => ?_)
      · refine x_iconst (v := 0) C dX12_element_42 ?_
        exact LP43 _ (by omega)
      · refine x_iconst (v := 0) C dX12_element_38 ?_
        refine x_goto C 43 (by decide) dX12_element_39 ?_
        exact LP43 _ (by omega)
  · refine x_iconst (v := 0) C dX12_element_12 ?_
    refine x_goto C 43 (by decide) dX12_element_13 ?_
    exact LP43 _ (by omega)
end HSM2ak
