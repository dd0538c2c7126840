section HSM2aj
theorem in_X12_put_X12 : ∀ w ∈ u_ws RX12 TX12 34, w ∈ wsX12_put := by decide +kernel
theorem ok_X12_put : okY yX12_put 3 := by decide +kernel
def rmX12_put : Room := { frames := 2, cells := 0, slots := 0, locals := 46 }
set_option maxRecDepth 100000 in
set_option maxHeartbeats 400000 in
theorem c_X12_put (l : Launch) (γ : GX) (a : Nat → Nat) (mh : Int → Int) (mn : Int) (mkd : Int → Int) (mfg : Int → Int) (mag : Int → Int) (mpo : Int → Int) (mwy : Int → Int) (mdy : Int) (mhw : Int → Int) (mkk : Int → Int) (mkf : Int → Int) (mrs : Int → Int) (mrm : Int → Int) (mrw : Int → Int) (mth : Int) (mgr : Int → Int) (mwa : Int → Int) (mre : Int) (mpl : Int) (mib : Int) (msn : Int) (mpn : Int → Int) (mlo : Int → Int) (mtl : Int → Int) (mke : Int → Int) (mim : Int → Int) (mhi : Int) (mp0 : Int) (mtk : Int) (mki : Value) (mun : Int → Int) (msd : Int) (mbe : Int → Int) (hM : WFm mn mh mkd mfg mag mpo mwy mhw mkk mkf mrs mrm mrw) (d : Int) (i : Int) (v : Int) (h0_ : -2147483648 ≤ d ∧ d < 2147483648) (h1_ : -2147483648 ≤ i ∧ i < 2147483648) (h2_ : -2147483648 ≤ v ∧ v < 2147483648) : MI l γ yX12_put wsX12_put rmX12_put [.ref (a 0), .int (iN (d)), .int (iN (i)), .int (iN (v))] (WM γ a mh mn mkd mfg mag mpo mwy mdy mhw mkk mkf mrs mrm mrw mth 0 mgr mwa mre mpl mib msn mpn mlo mtl mke mim mhi mp0 mtk mki mun msd mbe) (fun r_ w_ => (((0 ≤ d ∧ d ≤ 7) ∧ mhw d = 2 ∧ 0 ≤ i ∧ i ≤ mrm d - 1) ∧ r_ = 0 ∧ Wk γ a mh mn mkd mfg mag mpo mwy mdy mhw mkk mkf mrs mrm (upz mrw (100 * d + i) (nar (mrs d) v)) 0 mim mhi w_) ∨ (¬ ((0 ≤ d ∧ d ≤ 7) ∧ mhw d = 2 ∧ 0 ≤ i ∧ i ≤ mrm d - 1) ∧ r_ = q_wr d (mhw d) 2 (-13) ∧ Wk γ a mh mn mkd mfg mag mpo mwy mdy mhw mkk mkf mrs mrm mrw 0 mim mhi w_)) 0 0 := by
  refine MI.of (cc := cX12_put) (maxL := 5) (rt := .int) RX12 rfl (by decide +kernel) rfl (Nat.le_of_ble_eq_true rfl) ?_
  intro X C hγ hl hnm hret
  subst hγ
  have hMn := WFm.n hM
  show Wx X 0 0 (WM X.γ a mh mn mkd mfg mag mpo mwy mdy mhw mkk mkf mrs mrm mrw mth 0 mgr mwa mre mpl mib msn mpn mlo mtl mke mim mhi mp0 mtk mki mun msd mbe) 0 [(0, .ref (a 0)), (1, .int (iN (d))), (2, .int (iN (i))), (3, .int (iN (v)))] []
  refine x_aload_n C 0 rfl rfl dX12_put_0 ?_
  refine x_iconst (v := 0) C dX12_put_1 ?_
  refine x_put C in_X12_put_X12 tyX12 tyX12_ok nmX12 0 rfl rfl 14 (by decide) (List.mem_of_getElem? (i := 1) rfl) rfl rfl rfl rfl rfl (Nat.le_of_ble_eq_true rfl) (WM X.γ a mh mn mkd mfg mag mpo mwy mdy mhw mkk mkf mrs mrm mrw 0 0 mgr mwa mre mpl mib msn mpn mlo mtl mke mim mhi mp0 mtk mki mun msd mbe) rfl dX12_put_2 ?_
  refine x_aload_n C 0 rfl rfl dX12_put_5 ?_
  refine x_iload_n C 1 rfl rfl dX12_put_6 ?_
  refine x_V_I C (As := [.int (iN (d))]) (rest := []) 1 0 rfl rfl gX12_put_X12_wrongRow rfl (c_X12_wrongRow _ _ a mh mn mkd mfg mag mpo mwy mdy mhw mkk mkf mrs mrm mrw 0 0 mgr mwa mre mpl mib msn mpn mlo mtl mke mim mhi mp0 mtk mki mun msd mbe hM (d) (by omega)) rfl ok_X12_wrongRow rfl rfl rfl rfl dX12_put_7 (fun r w1 hp => ?_)
  obtain ⟨rfl, rfl⟩ := hp
  show Wx X 0 0 (WM X.γ a mh mn mkd mfg mag mpo mwy mdy mhw mkk mkf mrs mrm mrw 0 0 mgr mwa mre mpl mib msn mpn mlo mtl mke mim mhi mp0 mtk mki mun msd mbe) 10 [(0, .ref (a 0)), (1, .int (iN (d))), (2, .int (iN (i))), (3, .int (iN (v)))] [.int (iN (if 0 ≤ d ∧ d ≤ 7 then (if mhw d = 0 then -11 else if mhw d = 2 then 0 else -12) else -1))]
  refine x_istore C [(4, .int (iN (if 0 ≤ d ∧ d ≤ 7 then (if mhw d = 0 then -11 else if mhw d = 2 then 0 else -12) else -1))), (0, .ref (a 0)), (1, .int (iN (d))), (2, .int (iN (i))), (3, .int (iN (v)))] (by decide) rfl dX12_put_10 ?_
  refine x_iload C 0 rfl dX12_put_12 ?_
  refine x_if_ge C 20 (by decide) (by omega) dX12_put_14 (fun c_14 => ?_) (fun c_14 => ?_)
  · refine x_iload_n C 3 rfl rfl dX12_put_20 ?_
    refine x_i2l C (by omega) dX12_put_21 ?_
    refine x_lconst C 0 rfl dX12_put_22 ?_
    refine x_aload_n C 1 rfl rfl dX12_put_23 ?_
    refine x_get C in_X12_put_X12 0 rfl rfl 12 (by decide) (List.mem_of_getElem? (i := 2) rfl) rfl (v := .ref (a 11)) rfl dX12_put_24 ?_
    refine x_iload_n C 2 rfl rfl dX12_put_27 ?_
    refine x_iaload C (f := mrm) 11 rfl (by omega) rfl dX12_put_28 ?_
    have b160 := WFm.rm hM (d)
    refine x_iconst (v := 0) C dX12_put_29 ?_
    refine x_isub C dX12_put_30 ?_
    refine x_i2l C (by omega) dX12_put_31 ?_
    refine x_S_I C (As := [.long (jN (i)), .long (jN (0)), .long (jN ((mrm d) - 1))]) (rest := []) 3 gX12_put_X12_in (c_X12_in _ _ (WM X.γ a mh mn mkd mfg mag mpo mwy mdy mhw mkk mkf mrs mrm mrw 0 0 mgr mwa mre mpl mib msn mpn mlo mtl mke mim mhi mp0 mtk mki mun msd mbe) (i) (0) ((mrm d) - 1) (by omega) (by omega) (by omega)) rfl ok_X12_in rfl rfl rfl rfl dX12_put_32 (fun r w1 hp => ?_)
    obtain ⟨rfl, rfl⟩ := hp
    refine x_ifne_bz C 41 (by decide) dX12_put_35 (fun c_35 => ?_) (fun c_35 => ?_)
    · refine x_aload_n C 1 rfl rfl dX12_put_41 ?_
      refine x_get C in_X12_put_X12 0 rfl rfl 13 (by decide) (List.mem_of_getElem? (i := 3) rfl) rfl (v := .ref (a 12)) rfl dX12_put_42 ?_
      refine x_bipush C (100) (by decide) dX12_put_45 ?_
      refine x_iload_n C 2 rfl rfl dX12_put_47 ?_
      refine x_imul C dX12_put_48 ?_
      refine x_iload_n C 3 rfl rfl dX12_put_49 ?_
      refine x_iadd C dX12_put_50 ?_
      refine x_iload_n C 4 rfl rfl dX12_put_51 ?_
      refine x_aload_n C 1 rfl rfl dX12_put_52 ?_
      refine x_get C in_X12_put_X12 0 rfl rfl 11 (by decide) (List.mem_of_getElem? (i := 4) rfl) rfl (v := .ref (a 10)) rfl dX12_put_53 ?_
      refine x_iload_n C 2 rfl rfl dX12_put_56 ?_
      refine x_iaload C (f := mrs) 10 rfl (by omega) rfl dX12_put_57 ?_
      have b161 := WFm.rs hM (d)
      refine x_S_J C (As := [.int (iN (v)), .int (iN (mrs d))]) (rest := [.int (iN ((100 * d) + i)), .ref (a 12)]) 2 gX12_put_X12_narrowed (c_X12_narrowed _ _ (WM X.γ a mh mn mkd mfg mag mpo mwy mdy mhw mkk mkf mrs mrm mrw 0 0 mgr mwa mre mpl mib msn mpn mlo mtl mke mim mhi mp0 mtk mki mun msd mbe) (v) (mrs d) (by omega) (by omega)) rfl ok_X12_narrowed rfl rfl rfl rfl dX12_put_58 (fun r w1 hp => ?_)
      obtain ⟨rfl, rfl⟩ := hp
      show Wx X 0 0 (WM X.γ a mh mn mkd mfg mag mpo mwy mdy mhw mkk mkf mrs mrm mrw 0 0 mgr mwa mre mpl mib msn mpn mlo mtl mke mim mhi mp0 mtk mki mun msd mbe) 61 [(4, .int (iN (if 0 ≤ d ∧ d ≤ 7 then (if mhw d = 0 then -11 else if mhw d = 2 then 0 else -12) else -1))), (0, .ref (a 0)), (1, .int (iN (d))), (2, .int (iN (i))), (3, .int (iN (v)))] [.long (jN (nar (mrs d) v)), .int (iN ((100 * d) + i)), .ref (a 12)]
      refine x_lastore C (f := mrw) 12 rfl (by omega) rfl (WM X.γ a mh mn mkd mfg mag mpo mwy mdy mhw mkk mkf mrs mrm (upz mrw ((100 * d) + i) (nar (mrs d) v)) 0 0 mgr mwa mre mpl mib msn mpn mlo mtl mke mim mhi mp0 mtk mki mun msd mbe) rfl dX12_put_61 ?_
      refine x_iconst (v := 0) C dX12_put_62 ?_
      exact hret _ _ _ _ dX12_put_63 rfl (Or.inl ⟨(by omega), rfl, Wk.mk⟩)
    · refine x_bipush C (-13) (by decide) dX12_put_38 ?_
      exact hret _ _ _ _ dX12_put_40 rfl (Or.inr ⟨(by omega), (by unfold q_wr; omega), Wk.mk⟩)
  · refine x_iload C 0 rfl dX12_put_17 ?_
    exact hret _ _ _ _ dX12_put_19 rfl (Or.inr ⟨(by omega), (by unfold q_wr; omega), Wk.mk⟩)
end HSM2aj
