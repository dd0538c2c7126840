section HSM2am
theorem in_X12_cost_X12 : ∀ w ∈ u_ws RX12 TX12 34, w ∈ wsX12_cost := by decide +kernel
theorem ok_X12_cost : okY yX12_cost 1 := by decide +kernel
def rmX12_cost : Room := { frames := 2, cells := 0, slots := 0, locals := 46 }
set_option maxRecDepth 100000 in
set_option maxHeartbeats 400000 in
theorem c_X12_cost (l : Launch) (γ : GX) (a : Nat → Nat) (mh : Int → Int) (mn : Int) (mkd : Int → Int) (mfg : Int → Int) (mag : Int → Int) (mpo : Int → Int) (mwy : Int → Int) (mdy : Int) (mhw : Int → Int) (mkk : Int → Int) (mkf : Int → Int) (mrs : Int → Int) (mrm : Int → Int) (mrw : Int → Int) (mth : Int) (mgr : Int → Int) (mwa : Int → Int) (mre : Int) (mpl : Int) (mib : Int) (msn : Int) (mpn : Int → Int) (mlo : Int → Int) (mtl : Int → Int) (mke : Int → Int) (mim : Int → Int) (mhi : Int) (mp0 : Int) (mtk : Int) (mki : Value) (mun : Int → Int) (msd : Int) (mbe : Int → Int) (hM : WFm mn mh mkd mfg mag mpo mwy mhw mkk mkf mrs mrm mrw) (d : Int) (h0_ : -2147483648 ≤ d ∧ d < 2147483648) : MI l γ yX12_cost wsX12_cost rmX12_cost [.ref (a 0), .int (iN (d))] (WM γ a mh mn mkd mfg mag mpo mwy mdy mhw mkk mkf mrs mrm mrw mth 0 mgr mwa mre mpl mib msn mpn mlo mtl mke mim mhi mp0 mtk mki mun msd mbe) (fun r_ w_ => r_ = q_wr d (mhw d) 1 (coF (mkk d) (mkf d)) ∧ Wk γ a mh mn mkd mfg mag mpo mwy mdy mhw mkk mkf mrs mrm mrw 0 mim mhi w_) 0 0 := by
  refine MI.of (cc := cX12_cost) (maxL := 2) (rt := .int) RX12 rfl (by decide +kernel) rfl (Nat.le_of_ble_eq_true rfl) ?_
  intro X C hγ hl hnm hret
  subst hγ
  have hMn := WFm.n hM
  show Wx X 0 0 (WM X.γ a mh mn mkd mfg mag mpo mwy mdy mhw mkk mkf mrs mrm mrw mth 0 mgr mwa mre mpl mib msn mpn mlo mtl mke mim mhi mp0 mtk mki mun msd mbe) 0 [(0, .ref (a 0)), (1, .int (iN (d)))] []
  refine x_aload_n C 0 rfl rfl dX12_cost_0 ?_
  refine x_iconst (v := 0) C dX12_cost_1 ?_
  refine x_put C in_X12_cost_X12 tyX12 tyX12_ok nmX12 0 rfl rfl 14 (by decide) (List.mem_of_getElem? (i := 1) rfl) rfl rfl rfl rfl rfl (Nat.le_of_ble_eq_true rfl) (WM X.γ a mh mn mkd mfg mag mpo mwy mdy mhw mkk mkf mrs mrm mrw 0 0 mgr mwa mre mpl mib msn mpn mlo mtl mke mim mhi mp0 mtk mki mun msd mbe) rfl dX12_cost_2 ?_
  refine x_aload_n C 0 rfl rfl dX12_cost_5 ?_
  refine x_iload_n C 1 rfl rfl dX12_cost_6 ?_
  refine x_V_I C (As := [.int (iN (d))]) (rest := []) 1 0 rfl rfl gX12_cost_X12_wrongKept rfl (c_X12_wrongKept _ _ a mh mn mkd mfg mag mpo mwy mdy mhw mkk mkf mrs mrm mrw 0 0 mgr mwa mre mpl mib msn mpn mlo mtl mke mim mhi mp0 mtk mki mun msd mbe hM (d) (by omega)) rfl ok_X12_wrongKept rfl rfl rfl rfl dX12_cost_7 (fun r w1 hp => ?_)
  obtain ⟨rfl, rfl⟩ := hp
  show Wx X 0 0 (WM X.γ a mh mn mkd mfg mag mpo mwy mdy mhw mkk mkf mrs mrm mrw 0 0 mgr mwa mre mpl mib msn mpn mlo mtl mke mim mhi mp0 mtk mki mun msd mbe) 10 [(0, .ref (a 0)), (1, .int (iN (d)))] [.int (iN (if 0 ≤ d ∧ d ≤ 7 then (if mhw d = 0 then -11 else if mhw d = 1 then 0 else -12) else -1))]
  refine x_if_ge C 21 (by decide) (by omega) dX12_cost_10 (fun c_10 => ?_) (fun c_10 => ?_)
  · refine x_aload_n C 0 rfl rfl dX12_cost_21 ?_
    refine x_get C in_X12_cost_X12 0 rfl rfl 9 (by decide) (List.mem_of_getElem? (i := 2) rfl) rfl (v := .ref (a 8)) rfl dX12_cost_22 ?_
    refine x_iload_n C 1 rfl rfl dX12_cost_25 ?_
    refine x_iaload C (f := mkk) 8 rfl (by omega) rfl dX12_cost_26 ?_
    have b173 := WFm.kk hM (d)
    refine x_aload_n C 0 rfl rfl dX12_cost_27 ?_
    refine x_get C in_X12_cost_X12 0 rfl rfl 10 (by decide) (List.mem_of_getElem? (i := 3) rfl) rfl (v := .ref (a 9)) rfl dX12_cost_28 ?_
    refine x_iload_n C 1 rfl rfl dX12_cost_31 ?_
    refine x_iaload C (f := mkf) 9 rfl (by omega) rfl dX12_cost_32 ?_
    have b174 := WFm.kf hM (d)
    refine x_S_I C (As := [.int (iN (mkk d)), .int (iN (mkf d))]) (rest := []) 2 gX12_cost_X12_costOf (c_X12_costOf _ _ (WM X.γ a mh mn mkd mfg mag mpo mwy mdy mhw mkk mkf mrs mrm mrw 0 0 mgr mwa mre mpl mib msn mpn mlo mtl mke mim mhi mp0 mtk mki mun msd mbe) (mkk d) (mkf d) (by omega) (by omega)) rfl ok_X12_costOf rfl rfl rfl rfl dX12_cost_33 (fun r w1 hp => ?_)
    obtain ⟨rfl, rfl⟩ := hp
    show Wx X 0 0 (WM X.γ a mh mn mkd mfg mag mpo mwy mdy mhw mkk mkf mrs mrm mrw 0 0 mgr mwa mre mpl mib msn mpn mlo mtl mke mim mhi mp0 mtk mki mun msd mbe) 36 [(0, .ref (a 0)), (1, .int (iN (d)))] [.int (iN (coF (mkk d) (mkf d)))]
    exact hret _ _ _ _ dX12_cost_36 rfl ⟨(by unfold q_wr; rw [if_pos (show 0 ≤ d ∧ d ≤ 7 by omega), if_neg (show ¬ mhw d = 0 by omega), if_pos (show mhw d = 1 by omega)]), Wk.mk⟩
  · refine x_aload_n C 0 rfl rfl dX12_cost_13 ?_
    refine x_iload_n C 1 rfl rfl dX12_cost_14 ?_
    refine x_V_I C (As := [.int (iN (d))]) (rest := []) 1 0 rfl rfl gX12_cost_X12_wrongKept rfl (c_X12_wrongKept _ _ a mh mn mkd mfg mag mpo mwy mdy mhw mkk mkf mrs mrm mrw 0 0 mgr mwa mre mpl mib msn mpn mlo mtl mke mim mhi mp0 mtk mki mun msd mbe hM (d) (by omega)) rfl ok_X12_wrongKept rfl rfl rfl rfl dX12_cost_15 (fun r w1 hp => ?_)
    obtain ⟨rfl, rfl⟩ := hp
    show Wx X 0 0 (WM X.γ a mh mn mkd mfg mag mpo mwy mdy mhw mkk mkf mrs mrm mrw 0 0 mgr mwa mre mpl mib msn mpn mlo mtl mke mim mhi mp0 mtk mki mun msd mbe) 18 [(0, .ref (a 0)), (1, .int (iN (d)))] [.int (iN (if 0 ≤ d ∧ d ≤ 7 then (if mhw d = 0 then -11 else if mhw d = 1 then 0 else -12) else -1))]
    refine x_goto C 36 (by decide) dX12_cost_18 ?_
    exact hret _ _ _ _ dX12_cost_36 rfl ⟨(by unfold q_wr; omega), Wk.mk⟩
end HSM2am
