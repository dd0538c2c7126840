section HASK
theorem in_X12_height_X12 : ∀ w ∈ u_ws RX12 TX12 34, w ∈ wsX12_height := by decide +kernel
theorem ok_X12_height : okY yX12_height 1 := by decide +kernel
def rmX12_height : Room := { frames := 2, cells := 0, slots := 0, locals := 45 }
set_option maxRecDepth 100000 in
set_option maxHeartbeats 400000 in
theorem c_X12_height (l : Launch) (γ : GX) (a : Nat → Nat) (mh : Int → Int) (mn : Int) (mkd : Int → Int) (mfg : Int → Int) (mag : Int → Int) (mpo : Int → Int) (mwy : Int → Int) (mdy : Int) (mhw : Int → Int) (mkk : Int → Int) (mkf : Int → Int) (mrs : Int → Int) (mrm : Int → Int) (mrw : Int → Int) (mth : Int) (mgr : Int → Int) (mwa : Int → Int) (mre : Int) (mpl : Int) (mib : Int) (msn : Int) (mpn : Int → Int) (mlo : Int → Int) (mtl : Int → Int) (mke : Int → Int) (mim : Int → Int) (mhi : Int) (mp0 : Int) (mtk : Int) (mki : Value) (mun : Int → Int) (msd : Int) (mbe : Int → Int) (hM : WFm mn mh mkd mfg mag mpo mwy mhw mkk mkf mrs mrm mrw) (c : Int) (h0_ : -2147483648 ≤ c ∧ c < 2147483648) : MI l γ yX12_height wsX12_height rmX12_height [.ref (a 0), .int (iN (c))] (WM γ a mh mn mkd mfg mag mpo mwy mdy mhw mkk mkf mrs mrm mrw mth 0 mgr mwa mre mpl mib msn mpn mlo mtl mke mim mhi mp0 mtk mki mun msd mbe) (fun r_ w_ => r_ = q_height (Lc mh mn mdy mkd mfg mag mpo mwy) c ∧ Wk γ a mh mn mkd mfg mag mpo mwy mdy mhw mkk mkf mrs mrm mrw 0 mim mhi w_) 0 0 := by
  refine MI.of (cc := cX12_height) (maxL := 2) (rt := .int) RX12 rfl (by decide +kernel) rfl (Nat.le_of_ble_eq_true rfl) ?_
  intro X C hγ hl hnm hret
  subst hγ
  have hMn := WFm.n hM
  show Wx X 0 0 (WM X.γ a mh mn mkd mfg mag mpo mwy mdy mhw mkk mkf mrs mrm mrw mth 0 mgr mwa mre mpl mib msn mpn mlo mtl mke mim mhi mp0 mtk mki mun msd mbe) 0 [(0, .ref (a 0)), (1, .int (iN (c)))] []
  refine x_aload_n C 0 rfl rfl dX12_height_0 ?_
  refine x_iconst (v := 0) C dX12_height_1 ?_
  refine x_put C in_X12_height_X12 tyX12 tyX12_ok nmX12 0 rfl rfl 14 (by decide) (List.mem_of_getElem? (i := 1) rfl) rfl rfl rfl rfl rfl (Nat.le_of_ble_eq_true rfl) (WM X.γ a mh mn mkd mfg mag mpo mwy mdy mhw mkk mkf mrs mrm mrw 0 0 mgr mwa mre mpl mib msn mpn mlo mtl mke mim mhi mp0 mtk mki mun msd mbe) rfl dX12_height_2 ?_
  refine x_iload_n C 1 rfl rfl dX12_height_5 ?_
  refine x_S_I C (As := [.int (iN (c))]) (rest := []) 1 gX12_height_X12_isCell (c_X12_isCell _ _ (WM X.γ a mh mn mkd mfg mag mpo mwy mdy mhw mkk mkf mrs mrm mrw 0 0 mgr mwa mre mpl mib msn mpn mlo mtl mke mim mhi mp0 mtk mki mun msd mbe) (c) (by omega)) rfl ok_X12_isCell rfl rfl rfl rfl dX12_height_6 (fun r w1 hp => ?_)
  obtain ⟨rfl, rfl⟩ := hp
  refine x_ifeq_bz C 21 (by decide) dX12_height_9 (fun c_9 => ?_) (fun c_9 => ?_)
  · refine x_iconst (v := 0) C dX12_height_21 ?_
    exact hret _ _ _ _ dX12_height_22 rfl ⟨(by show _ = (if 0 ≤ c ∧ c ≤ 14 then mh c else -1); omega), Wk.mk⟩
  · refine x_aload_n C 0 rfl rfl dX12_height_12 ?_
    refine x_get C in_X12_height_X12 0 rfl rfl 0 (by decide) (List.mem_of_getElem? (i := 2) rfl) rfl (v := .ref (a 1)) rfl dX12_height_13 ?_
    refine x_iload_n C 1 rfl rfl dX12_height_16 ?_
    refine x_iaload C (f := mh) 1 rfl (by omega) rfl dX12_height_17 ?_
    have b51 := WFm.h hM (c)
    refine x_goto C 22 (by decide) dX12_height_18 ?_
    exact hret _ _ _ _ dX12_height_22 rfl ⟨(by show _ = (if 0 ≤ c ∧ c ≤ 14 then mh c else -1); omega), Wk.mk⟩
theorem in_X12_walker_X12 : ∀ w ∈ u_ws RX12 TX12 34, w ∈ wsX12_walker := by decide +kernel
theorem ok_X12_walker : okY yX12_walker 2 := by decide +kernel
def rmX12_walker : Room := { frames := 2, cells := 0, slots := 0, locals := 46 }
set_option maxRecDepth 100000 in
set_option maxHeartbeats 400000 in
theorem c_X12_walker (l : Launch) (γ : GX) (a : Nat → Nat) (mh : Int → Int) (mn : Int) (mkd : Int → Int) (mfg : Int → Int) (mag : Int → Int) (mpo : Int → Int) (mwy : Int → Int) (mdy : Int) (mhw : Int → Int) (mkk : Int → Int) (mkf : Int → Int) (mrs : Int → Int) (mrm : Int → Int) (mrw : Int → Int) (mth : Int) (mgr : Int → Int) (mwa : Int → Int) (mre : Int) (mpl : Int) (mib : Int) (msn : Int) (mpn : Int → Int) (mlo : Int → Int) (mtl : Int → Int) (mke : Int → Int) (mim : Int → Int) (mhi : Int) (mp0 : Int) (mtk : Int) (mki : Value) (mun : Int → Int) (msd : Int) (mbe : Int → Int) (hM : WFm mn mh mkd mfg mag mpo mwy mhw mkk mkf mrs mrm mrw) (i : Int) (w : Int) (h0_ : -2147483648 ≤ i ∧ i < 2147483648) (h1_ : -2147483648 ≤ w ∧ w < 2147483648) : MI l γ yX12_walker wsX12_walker rmX12_walker [.ref (a 0), .int (iN (i)), .int (iN (w))] (WM γ a mh mn mkd mfg mag mpo mwy mdy mhw mkk mkf mrs mrm mrw mth 0 mgr mwa mre mpl mib msn mpn mlo mtl mke mim mhi mp0 mtk mki mun msd mbe) (fun r_ w_ => r_ = q_walker (Lc mh mn mdy mkd mfg mag mpo mwy) i w ∧ Wk γ a mh mn mkd mfg mag mpo mwy mdy mhw mkk mkf mrs mrm mrw 0 mim mhi w_) 0 0 := by
  refine MI.of (cc := cX12_walker) (maxL := 3) (rt := .int) RX12 rfl (by decide +kernel) rfl (Nat.le_of_ble_eq_true rfl) ?_
  intro X C hγ hl hnm hret
  subst hγ
  have hMn := WFm.n hM
  show Wx X 0 0 (WM X.γ a mh mn mkd mfg mag mpo mwy mdy mhw mkk mkf mrs mrm mrw mth 0 mgr mwa mre mpl mib msn mpn mlo mtl mke mim mhi mp0 mtk mki mun msd mbe) 0 [(0, .ref (a 0)), (1, .int (iN (i))), (2, .int (iN (w)))] []
  refine x_aload_n C 0 rfl rfl dX12_walker_0 ?_
  refine x_iconst (v := 0) C dX12_walker_1 ?_
  refine x_put C in_X12_walker_X12 tyX12 tyX12_ok nmX12 0 rfl rfl 14 (by decide) (List.mem_of_getElem? (i := 1) rfl) rfl rfl rfl rfl rfl (Nat.le_of_ble_eq_true rfl) (WM X.γ a mh mn mkd mfg mag mpo mwy mdy mhw mkk mkf mrs mrm mrw 0 0 mgr mwa mre mpl mib msn mpn mlo mtl mke mim mhi mp0 mtk mki mun msd mbe) rfl dX12_walker_2 ?_
  refine x_aload_n C 0 rfl rfl dX12_walker_5 ?_
  refine x_iload_n C 1 rfl rfl dX12_walker_6 ?_
  refine x_V_I C (As := [.int (iN (i))]) (rest := []) 1 0 rfl rfl gX12_walker_X12_isOne rfl (c_X12_isOne _ _ a mh mn mkd mfg mag mpo mwy mdy mhw mkk mkf mrs mrm mrw 0 0 mgr mwa mre mpl mib msn mpn mlo mtl mke mim mhi mp0 mtk mki mun msd mbe hM (i) (by omega)) rfl ok_X12_isOne rfl rfl rfl rfl dX12_walker_7 (fun r w1 hp => ?_)
  obtain ⟨rfl, rfl⟩ := hp
  refine x_ifne_bz C 15 (by decide) dX12_walker_10 (fun c_10 => ?_) (fun c_10 => ?_)
  · refine x_iload_n C 2 rfl rfl dX12_walker_15 ?_
    rcases (show w = 0 ∨ w = 1 ∨ w = 2 ∨ w = 3 ∨ w = 4 ∨ w = 5 ∨ w = 6 ∨ w = 7 ∨ w = 8 ∨ (w < 0 ∨ 8 < w) by omega) with s_16 | s_16 | s_16 | s_16 | s_16 | s_16 | s_16 | s_16 | s_16 | s_16
    · refine x_tabIn C 68 (52) (by omega) (by omega) (by omega) (by rw [s_16]; rfl) (by decide) dX12_walker_16 ?_
      refine x_aload_n C 0 rfl rfl dX12_walker_68 ?_
      refine x_get C in_X12_walker_X12 0 rfl rfl 2 (by decide) (List.mem_of_getElem? (i := 2) rfl) rfl (v := .ref (a 2)) rfl dX12_walker_69 ?_
      refine x_iload_n C 1 rfl rfl dX12_walker_72 ?_
      refine x_iaload C (f := mkd) 2 rfl (by omega) rfl dX12_walker_73 ?_
      have b52 := WFm.kd hM (i)
      exact hret _ _ _ _ dX12_walker_74 rfl ⟨(by unfold q_walker; rw [if_pos (show q_one (Lc mh mn mdy mkd mfg mag mpo mwy) i from (show 0 ≤ i ∧ i ≤ mn - 1 by omega))]; show _ = if w = 0 then mkd i else if w = 1 then mfg i else if w = 2 then mag i else if w = 3 then mpo i else if w = 4 then (if mwy i = 0 then 0 else if mwy i < 0 then 1 else 2) else if w = 5 then prL mkd mfg mag i else if w = 6 then srL mkd mfg i else if w = 7 then shF (mkd i) (mfg i) (mag i) else if w = 8 then spL mkd i else -1; omega), Wk.mk⟩
    · refine x_tabIn C 75 (59) (by omega) (by omega) (by omega) (by rw [s_16]; rfl) (by decide) dX12_walker_16 ?_
      refine x_aload_n C 0 rfl rfl dX12_walker_75 ?_
      refine x_get C in_X12_walker_X12 0 rfl rfl 3 (by decide) (List.mem_of_getElem? (i := 3) rfl) rfl (v := .ref (a 3)) rfl dX12_walker_76 ?_
      refine x_iload_n C 1 rfl rfl dX12_walker_79 ?_
      refine x_iaload C (f := mfg) 3 rfl (by omega) rfl dX12_walker_80 ?_
      have b53 := WFm.fg hM (i)
      exact hret _ _ _ _ dX12_walker_81 rfl ⟨(by unfold q_walker; rw [if_pos (show q_one (Lc mh mn mdy mkd mfg mag mpo mwy) i from (show 0 ≤ i ∧ i ≤ mn - 1 by omega))]; show _ = if w = 0 then mkd i else if w = 1 then mfg i else if w = 2 then mag i else if w = 3 then mpo i else if w = 4 then (if mwy i = 0 then 0 else if mwy i < 0 then 1 else 2) else if w = 5 then prL mkd mfg mag i else if w = 6 then srL mkd mfg i else if w = 7 then shF (mkd i) (mfg i) (mag i) else if w = 8 then spL mkd i else -1; omega), Wk.mk⟩
    · refine x_tabIn C 82 (66) (by omega) (by omega) (by omega) (by rw [s_16]; rfl) (by decide) dX12_walker_16 ?_
      refine x_aload_n C 0 rfl rfl dX12_walker_82 ?_
      refine x_get C in_X12_walker_X12 0 rfl rfl 4 (by decide) (List.mem_of_getElem? (i := 4) rfl) rfl (v := .ref (a 4)) rfl dX12_walker_83 ?_
      refine x_iload_n C 1 rfl rfl dX12_walker_86 ?_
      refine x_iaload C (f := mag) 4 rfl (by omega) rfl dX12_walker_87 ?_
      have b54 := WFm.ag hM (i)
      exact hret _ _ _ _ dX12_walker_88 rfl ⟨(by unfold q_walker; rw [if_pos (show q_one (Lc mh mn mdy mkd mfg mag mpo mwy) i from (show 0 ≤ i ∧ i ≤ mn - 1 by omega))]; show _ = if w = 0 then mkd i else if w = 1 then mfg i else if w = 2 then mag i else if w = 3 then mpo i else if w = 4 then (if mwy i = 0 then 0 else if mwy i < 0 then 1 else 2) else if w = 5 then prL mkd mfg mag i else if w = 6 then srL mkd mfg i else if w = 7 then shF (mkd i) (mfg i) (mag i) else if w = 8 then spL mkd i else -1; omega), Wk.mk⟩
    · refine x_tabIn C 89 (73) (by omega) (by omega) (by omega) (by rw [s_16]; rfl) (by decide) dX12_walker_16 ?_
      refine x_aload_n C 0 rfl rfl dX12_walker_89 ?_
      refine x_get C in_X12_walker_X12 0 rfl rfl 5 (by decide) (List.mem_of_getElem? (i := 5) rfl) rfl (v := .ref (a 5)) rfl dX12_walker_90 ?_
      refine x_iload_n C 1 rfl rfl dX12_walker_93 ?_
      refine x_iaload C (f := mpo) 5 rfl (by omega) rfl dX12_walker_94 ?_
      have b55 := WFm.po hM (i)
      exact hret _ _ _ _ dX12_walker_95 rfl ⟨(by unfold q_walker; rw [if_pos (show q_one (Lc mh mn mdy mkd mfg mag mpo mwy) i from (show 0 ≤ i ∧ i ≤ mn - 1 by omega))]; show _ = if w = 0 then mkd i else if w = 1 then mfg i else if w = 2 then mag i else if w = 3 then mpo i else if w = 4 then (if mwy i = 0 then 0 else if mwy i < 0 then 1 else 2) else if w = 5 then prL mkd mfg mag i else if w = 6 then srL mkd mfg i else if w = 7 then shF (mkd i) (mfg i) (mag i) else if w = 8 then spL mkd i else -1; omega), Wk.mk⟩
    · refine x_tabIn C 96 (80) (by omega) (by omega) (by omega) (by rw [s_16]; rfl) (by decide) dX12_walker_16 ?_
      refine x_aload_n C 0 rfl rfl dX12_walker_96 ?_
      refine x_get C in_X12_walker_X12 0 rfl rfl 6 (by decide) (List.mem_of_getElem? (i := 6) rfl) rfl (v := .ref (a 6)) rfl dX12_walker_97 ?_
      refine x_iload_n C 1 rfl rfl dX12_walker_100 ?_
      refine x_iaload C (f := mwy) 6 rfl (by omega) rfl dX12_walker_101 ?_
      have b56 := WFm.wy hM (i)
      refine x_if_ne C 109 (by decide) (by omega) dX12_walker_102 (fun c_102 => ?_) (fun c_102 => ?_)
      · refine x_aload_n C 0 rfl rfl dX12_walker_109 ?_
        refine x_get C in_X12_walker_X12 0 rfl rfl 6 (by decide) (List.mem_of_getElem? (i := 6) rfl) rfl (v := .ref (a 6)) rfl dX12_walker_110 ?_
        refine x_iload_n C 1 rfl rfl dX12_walker_113 ?_
        refine x_iaload C (f := mwy) 6 rfl (by omega) rfl dX12_walker_114 ?_
        have b57 := WFm.wy hM (i)
        refine x_if_ge C 122 (by decide) (by omega) dX12_walker_115 (fun c_115 => ?_) (fun c_115 => ?_)
        · refine x_iconst (v := 0) C dX12_walker_122 ?_
          exact hret _ _ _ _ dX12_walker_123 rfl ⟨(by unfold q_walker; rw [if_pos (show q_one (Lc mh mn mdy mkd mfg mag mpo mwy) i from (show 0 ≤ i ∧ i ≤ mn - 1 by omega))]; show _ = if w = 0 then mkd i else if w = 1 then mfg i else if w = 2 then mag i else if w = 3 then mpo i else if w = 4 then (if mwy i = 0 then 0 else if mwy i < 0 then 1 else 2) else if w = 5 then prL mkd mfg mag i else if w = 6 then srL mkd mfg i else if w = 7 then shF (mkd i) (mfg i) (mag i) else if w = 8 then spL mkd i else -1; omega), Wk.mk⟩
        · refine x_iconst (v := 0) C dX12_walker_118 ?_
          refine x_goto C 123 (by decide) dX12_walker_119 ?_
          exact hret _ _ _ _ dX12_walker_123 rfl ⟨(by unfold q_walker; rw [if_pos (show q_one (Lc mh mn mdy mkd mfg mag mpo mwy) i from (show 0 ≤ i ∧ i ≤ mn - 1 by omega))]; show _ = if w = 0 then mkd i else if w = 1 then mfg i else if w = 2 then mag i else if w = 3 then mpo i else if w = 4 then (if mwy i = 0 then 0 else if mwy i < 0 then 1 else 2) else if w = 5 then prL mkd mfg mag i else if w = 6 then srL mkd mfg i else if w = 7 then shF (mkd i) (mfg i) (mag i) else if w = 8 then spL mkd i else -1; omega), Wk.mk⟩
      · refine x_iconst (v := 0) C dX12_walker_105 ?_
        refine x_goto C 123 (by decide) dX12_walker_106 ?_
        exact hret _ _ _ _ dX12_walker_123 rfl ⟨(by unfold q_walker; rw [if_pos (show q_one (Lc mh mn mdy mkd mfg mag mpo mwy) i from (show 0 ≤ i ∧ i ≤ mn - 1 by omega))]; show _ = if w = 0 then mkd i else if w = 1 then mfg i else if w = 2 then mag i else if w = 3 then mpo i else if w = 4 then (if mwy i = 0 then 0 else if mwy i < 0 then 1 else 2) else if w = 5 then prL mkd mfg mag i else if w = 6 then srL mkd mfg i else if w = 7 then shF (mkd i) (mfg i) (mag i) else if w = 8 then spL mkd i else -1; omega), Wk.mk⟩
    · refine x_tabIn C 124 (108) (by omega) (by omega) (by omega) (by rw [s_16]; rfl) (by decide) dX12_walker_16 ?_
      refine x_aload_n C 0 rfl rfl dX12_walker_124 ?_
      refine x_iload_n C 1 rfl rfl dX12_walker_125 ?_
      refine x_V_I C (As := [.int (iN (i))]) (rest := []) 1 0 rfl rfl gX12_walker_X12_pressesOf rfl (c_X12_pressesOf _ _ a mh mn mkd mfg mag mpo mwy mdy mhw mkk mkf mrs mrm mrw 0 0 mgr mwa mre mpl mib msn mpn mlo mtl mke mim mhi mp0 mtk mki mun msd mbe hM (i) (by omega)) rfl ok_X12_pressesOf rfl rfl rfl rfl dX12_walker_126 (fun r w1 hp => ?_)
      obtain ⟨rfl, rfl⟩ := hp
      show Wx X 0 0 (WM X.γ a mh mn mkd mfg mag mpo mwy mdy mhw mkk mkf mrs mrm mrw 0 0 mgr mwa mre mpl mib msn mpn mlo mtl mke mim mhi mp0 mtk mki mun msd mbe) 129 [(0, .ref (a 0)), (1, .int (iN (i))), (2, .int (iN (w)))] [.int (iN (prL mkd mfg mag i))]
      have b58 := WFm.pr hM i
      exact hret _ _ _ _ dX12_walker_129 rfl ⟨(by unfold q_walker; rw [if_pos (show q_one (Lc mh mn mdy mkd mfg mag mpo mwy) i from (show 0 ≤ i ∧ i ≤ mn - 1 by omega))]; show _ = if w = 0 then mkd i else if w = 1 then mfg i else if w = 2 then mag i else if w = 3 then mpo i else if w = 4 then (if mwy i = 0 then 0 else if mwy i < 0 then 1 else 2) else if w = 5 then prL mkd mfg mag i else if w = 6 then srL mkd mfg i else if w = 7 then shF (mkd i) (mfg i) (mag i) else if w = 8 then spL mkd i else -1; omega), Wk.mk⟩
    · refine x_tabIn C 130 (114) (by omega) (by omega) (by omega) (by rw [s_16]; rfl) (by decide) dX12_walker_16 ?_
      refine x_aload_n C 0 rfl rfl dX12_walker_130 ?_
      refine x_iload_n C 1 rfl rfl dX12_walker_131 ?_
      refine x_V_I C (As := [.int (iN (i))]) (rest := []) 1 0 rfl rfl gX12_walker_X12_strideOf rfl (c_X12_strideOf _ _ a mh mn mkd mfg mag mpo mwy mdy mhw mkk mkf mrs mrm mrw 0 0 mgr mwa mre mpl mib msn mpn mlo mtl mke mim mhi mp0 mtk mki mun msd mbe hM (i) (by omega)) rfl ok_X12_strideOf rfl rfl rfl rfl dX12_walker_132 (fun r w1 hp => ?_)
      obtain ⟨rfl, rfl⟩ := hp
      show Wx X 0 0 (WM X.γ a mh mn mkd mfg mag mpo mwy mdy mhw mkk mkf mrs mrm mrw 0 0 mgr mwa mre mpl mib msn mpn mlo mtl mke mim mhi mp0 mtk mki mun msd mbe) 135 [(0, .ref (a 0)), (1, .int (iN (i))), (2, .int (iN (w)))] [.int (iN (srL mkd mfg i))]
      have b59 := WFm.sr hM i
      exact hret _ _ _ _ dX12_walker_135 rfl ⟨(by unfold q_walker; rw [if_pos (show q_one (Lc mh mn mdy mkd mfg mag mpo mwy) i from (show 0 ≤ i ∧ i ≤ mn - 1 by omega))]; show _ = if w = 0 then mkd i else if w = 1 then mfg i else if w = 2 then mag i else if w = 3 then mpo i else if w = 4 then (if mwy i = 0 then 0 else if mwy i < 0 then 1 else 2) else if w = 5 then prL mkd mfg mag i else if w = 6 then srL mkd mfg i else if w = 7 then shF (mkd i) (mfg i) (mag i) else if w = 8 then spL mkd i else -1; omega), Wk.mk⟩
    · refine x_tabIn C 136 (120) (by omega) (by omega) (by omega) (by rw [s_16]; rfl) (by decide) dX12_walker_16 ?_
      refine x_aload_n C 0 rfl rfl dX12_walker_136 ?_
      refine x_iload_n C 1 rfl rfl dX12_walker_137 ?_
      refine x_V_I C (As := [.int (iN (i))]) (rest := []) 1 0 rfl rfl gX12_walker_X12_showsOf rfl (c_X12_showsOf _ _ a mh mn mkd mfg mag mpo mwy mdy mhw mkk mkf mrs mrm mrw 0 0 mgr mwa mre mpl mib msn mpn mlo mtl mke mim mhi mp0 mtk mki mun msd mbe hM (i) (by omega)) rfl ok_X12_showsOf rfl rfl rfl rfl dX12_walker_138 (fun r w1 hp => ?_)
      obtain ⟨rfl, rfl⟩ := hp
      show Wx X 0 0 (WM X.γ a mh mn mkd mfg mag mpo mwy mdy mhw mkk mkf mrs mrm mrw 0 0 mgr mwa mre mpl mib msn mpn mlo mtl mke mim mhi mp0 mtk mki mun msd mbe) 141 [(0, .ref (a 0)), (1, .int (iN (i))), (2, .int (iN (w)))] [.int (iN (shF (mkd i) (mfg i) (mag i)))]
      have b60 := shF_b (k := mkd i) (WFm.fg hM i) (WFm.ag hM i)
      exact hret _ _ _ _ dX12_walker_141 rfl ⟨(by unfold q_walker; rw [if_pos (show q_one (Lc mh mn mdy mkd mfg mag mpo mwy) i from (show 0 ≤ i ∧ i ≤ mn - 1 by omega))]; show _ = if w = 0 then mkd i else if w = 1 then mfg i else if w = 2 then mag i else if w = 3 then mpo i else if w = 4 then (if mwy i = 0 then 0 else if mwy i < 0 then 1 else 2) else if w = 5 then prL mkd mfg mag i else if w = 6 then srL mkd mfg i else if w = 7 then shF (mkd i) (mfg i) (mag i) else if w = 8 then spL mkd i else -1; omega), Wk.mk⟩
    · refine x_tabIn C 142 (126) (by omega) (by omega) (by omega) (by rw [s_16]; rfl) (by decide) dX12_walker_16 ?_
      refine x_aload_n C 0 rfl rfl dX12_walker_142 ?_
      refine x_iload_n C 1 rfl rfl dX12_walker_143 ?_
      refine x_V_I C (As := [.int (iN (i))]) (rest := []) 1 0 rfl rfl gX12_walker_X12_spreadsOf rfl (c_X12_spreadsOf _ _ a mh mn mkd mfg mag mpo mwy mdy mhw mkk mkf mrs mrm mrw 0 0 mgr mwa mre mpl mib msn mpn mlo mtl mke mim mhi mp0 mtk mki mun msd mbe hM (i) (by omega)) rfl ok_X12_spreadsOf rfl rfl rfl rfl dX12_walker_144 (fun r w1 hp => ?_)
      obtain ⟨rfl, rfl⟩ := hp
      show Wx X 0 0 (WM X.γ a mh mn mkd mfg mag mpo mwy mdy mhw mkk mkf mrs mrm mrw 0 0 mgr mwa mre mpl mib msn mpn mlo mtl mke mim mhi mp0 mtk mki mun msd mbe) 147 [(0, .ref (a 0)), (1, .int (iN (i))), (2, .int (iN (w)))] [.int (iN (spL mkd i))]
      have b61 := WFm.sp hM i
      exact hret _ _ _ _ dX12_walker_147 rfl ⟨(by unfold q_walker; rw [if_pos (show q_one (Lc mh mn mdy mkd mfg mag mpo mwy) i from (show 0 ≤ i ∧ i ≤ mn - 1 by omega))]; show _ = if w = 0 then mkd i else if w = 1 then mfg i else if w = 2 then mag i else if w = 3 then mpo i else if w = 4 then (if mwy i = 0 then 0 else if mwy i < 0 then 1 else 2) else if w = 5 then prL mkd mfg mag i else if w = 6 then srL mkd mfg i else if w = 7 then shF (mkd i) (mfg i) (mag i) else if w = 8 then spL mkd i else -1; omega), Wk.mk⟩
    · refine x_tabOut C 148 (by omega) s_16 (by decide) dX12_walker_16 ?_
      refine x_iconst (v := 0) C dX12_walker_148 ?_
      exact hret _ _ _ _ dX12_walker_149 rfl ⟨(by unfold q_walker; rw [if_pos (show q_one (Lc mh mn mdy mkd mfg mag mpo mwy) i from (show 0 ≤ i ∧ i ≤ mn - 1 by omega))]; show _ = if w = 0 then mkd i else if w = 1 then mfg i else if w = 2 then mag i else if w = 3 then mpo i else if w = 4 then (if mwy i = 0 then 0 else if mwy i < 0 then 1 else 2) else if w = 5 then prL mkd mfg mag i else if w = 6 then srL mkd mfg i else if w = 7 then shF (mkd i) (mfg i) (mag i) else if w = 8 then spL mkd i else -1; omega), Wk.mk⟩
  · refine x_iconst (v := 0) C dX12_walker_13 ?_
    exact hret _ _ _ _ dX12_walker_14 rfl ⟨(by unfold q_walker; rw [if_neg (show ¬ q_one (Lc mh mn mdy mkd mfg mag mpo mwy) i from (show ¬ (0 ≤ i ∧ i ≤ mn - 1) by omega))]), Wk.mk⟩
theorem in_X12_ground_X12 : ∀ w ∈ u_ws RX12 TX12 34, w ∈ wsX12_ground := by decide +kernel
theorem ok_X12_ground : okY yX12_ground 1 := by decide +kernel
def rmX12_ground : Room := { frames := 4, cells := 0, slots := 0, locals := 88 }
set_option maxRecDepth 100000 in
set_option maxHeartbeats 400000 in
theorem c_X12_ground (l : Launch) (γ : GX) (a : Nat → Nat) (mh : Int → Int) (mn : Int) (mkd : Int → Int) (mfg : Int → Int) (mag : Int → Int) (mpo : Int → Int) (mwy : Int → Int) (mdy : Int) (mhw : Int → Int) (mkk : Int → Int) (mkf : Int → Int) (mrs : Int → Int) (mrm : Int → Int) (mrw : Int → Int) (mth : Int) (mgr : Int → Int) (mwa : Int → Int) (mre : Int) (mpl : Int) (mib : Int) (msn : Int) (mpn : Int → Int) (mlo : Int → Int) (mtl : Int → Int) (mke : Int → Int) (mim : Int → Int) (mhi : Int) (mp0 : Int) (mtk : Int) (mki : Value) (mun : Int → Int) (msd : Int) (mbe : Int → Int) (hM : WFm mn mh mkd mfg mag mpo mwy mhw mkk mkf mrs mrm mrw) (c : Int) (h0_ : -2147483648 ≤ c ∧ c < 2147483648) : MI l γ yX12_ground wsX12_ground rmX12_ground [.ref (a 0), .int (iN (c))] (WM γ a mh mn mkd mfg mag mpo mwy mdy mhw mkk mkf mrs mrm mrw mth 0 mgr mwa mre mpl mib msn mpn mlo mtl mke mim mhi mp0 mtk mki mun msd mbe) (fun r_ w_ => r_ = q_ground (Lc mh mn mdy mkd mfg mag mpo mwy) c ∧ Wk γ a mh mn mkd mfg mag mpo mwy mdy mhw mkk mkf mrs mrm mrw 0 mim mhi w_) 0 0 := by
  refine MI.of (cc := cX12_ground) (maxL := 2) (rt := .int) RX12 rfl (by decide +kernel) rfl (Nat.le_of_ble_eq_true rfl) ?_
  intro X C hγ hl hnm hret
  subst hγ
  have hMn := WFm.n hM
  show Wx X 0 0 (WM X.γ a mh mn mkd mfg mag mpo mwy mdy mhw mkk mkf mrs mrm mrw mth 0 mgr mwa mre mpl mib msn mpn mlo mtl mke mim mhi mp0 mtk mki mun msd mbe) 0 [(0, .ref (a 0)), (1, .int (iN (c)))] []
  refine x_aload_n C 0 rfl rfl dX12_ground_0 ?_
  refine x_iconst (v := 0) C dX12_ground_1 ?_
  refine x_put C in_X12_ground_X12 tyX12 tyX12_ok nmX12 0 rfl rfl 14 (by decide) (List.mem_of_getElem? (i := 1) rfl) rfl rfl rfl rfl rfl (Nat.le_of_ble_eq_true rfl) (WM X.γ a mh mn mkd mfg mag mpo mwy mdy mhw mkk mkf mrs mrm mrw 0 0 mgr mwa mre mpl mib msn mpn mlo mtl mke mim mhi mp0 mtk mki mun msd mbe) rfl dX12_ground_2 ?_
  refine x_iload_n C 1 rfl rfl dX12_ground_5 ?_
  refine x_S_I C (As := [.int (iN (c))]) (rest := []) 1 gX12_ground_X12_isCell (c_X12_isCell _ _ (WM X.γ a mh mn mkd mfg mag mpo mwy mdy mhw mkk mkf mrs mrm mrw 0 0 mgr mwa mre mpl mib msn mpn mlo mtl mke mim mhi mp0 mtk mki mun msd mbe) (c) (by omega)) rfl ok_X12_isCell rfl rfl rfl rfl dX12_ground_6 (fun r w1 hp => ?_)
  obtain ⟨rfl, rfl⟩ := hp
  refine x_ifeq_bz C 20 (by decide) dX12_ground_9 (fun c_9 => ?_) (fun c_9 => ?_)
  · refine x_iconst (v := 0) C dX12_ground_20 ?_
    exact hret _ _ _ _ dX12_ground_21 rfl ⟨(by unfold q_ground; omega), Wk.mk⟩
  · refine x_aload_n C 0 rfl rfl dX12_ground_12 ?_
    refine x_iload_n C 1 rfl rfl dX12_ground_13 ?_
    refine x_V_I C (As := [.int (iN (c))]) (rest := []) 1 0 rfl rfl gX12_ground_X12_groundAt rfl (c_X12_groundAt _ _ a mh mn mkd mfg mag mpo mwy mdy mhw mkk mkf mrs mrm mrw 0 mgr mwa mre mpl mib msn mpn mlo mtl mke mim mhi mp0 mtk mki mun msd mbe hM (c) (by omega)) rfl ok_X12_groundAt rfl rfl rfl rfl dX12_ground_14 (fun r w1 hp => ?_)
    obtain ⟨rfl, rfl⟩ := hp
    show Wx X 0 0 (WM X.γ a mh mn mkd mfg mag mpo mwy mdy mhw mkk mkf mrs mrm mrw 0 0 (Ct.g (Lc mh mn mdy mkd mfg mag mpo mwy)) mwa mre mpl mib msn mpn mlo mtl mke mim mhi mp0 mtk mki mun msd mbe) 17 [(0, .ref (a 0)), (1, .int (iN (c)))] [.int (iN (Ct.g (Lc mh mn mdy mkd mfg mag mpo mwy) c))]
    have b62 := WFc.g (WFm.L hM mdy) c
    refine x_goto C 21 (by decide) dX12_ground_17 ?_
    exact hret _ _ _ _ dX12_ground_21 rfl ⟨(by unfold q_ground; omega), Wk.mk⟩
theorem in_X12_water_X12 : ∀ w ∈ u_ws RX12 TX12 34, w ∈ wsX12_water := by decide +kernel
theorem ok_X12_water : okY yX12_water 1 := by decide +kernel
def rmX12_water : Room := { frames := 4, cells := 0, slots := 0, locals := 92 }
set_option maxRecDepth 100000 in
set_option maxHeartbeats 400000 in
theorem c_X12_water (l : Launch) (γ : GX) (a : Nat → Nat) (mh : Int → Int) (mn : Int) (mkd : Int → Int) (mfg : Int → Int) (mag : Int → Int) (mpo : Int → Int) (mwy : Int → Int) (mdy : Int) (mhw : Int → Int) (mkk : Int → Int) (mkf : Int → Int) (mrs : Int → Int) (mrm : Int → Int) (mrw : Int → Int) (mth : Int) (mgr : Int → Int) (mwa : Int → Int) (mre : Int) (mpl : Int) (mib : Int) (msn : Int) (mpn : Int → Int) (mlo : Int → Int) (mtl : Int → Int) (mke : Int → Int) (mim : Int → Int) (mhi : Int) (mp0 : Int) (mtk : Int) (mki : Value) (mun : Int → Int) (msd : Int) (mbe : Int → Int) (hM : WFm mn mh mkd mfg mag mpo mwy mhw mkk mkf mrs mrm mrw) (c : Int) (h0_ : -2147483648 ≤ c ∧ c < 2147483648) : MI l γ yX12_water wsX12_water rmX12_water [.ref (a 0), .int (iN (c))] (WM γ a mh mn mkd mfg mag mpo mwy mdy mhw mkk mkf mrs mrm mrw mth 0 mgr mwa mre mpl mib msn mpn mlo mtl mke mim mhi mp0 mtk mki mun msd mbe) (fun r_ w_ => r_ = q_water (Lc mh mn mdy mkd mfg mag mpo mwy) c ∧ Wk γ a mh mn mkd mfg mag mpo mwy mdy mhw mkk mkf mrs mrm mrw 0 mim mhi w_) 0 0 := by
  refine MI.of (cc := cX12_water) (maxL := 3) (rt := .int) RX12 rfl (by decide +kernel) rfl (Nat.le_of_ble_eq_true rfl) ?_
  intro X C hγ hl hnm hret
  subst hγ
  have hMn := WFm.n hM
  show Wx X 0 0 (WM X.γ a mh mn mkd mfg mag mpo mwy mdy mhw mkk mkf mrs mrm mrw mth 0 mgr mwa mre mpl mib msn mpn mlo mtl mke mim mhi mp0 mtk mki mun msd mbe) 0 [(0, .ref (a 0)), (1, .int (iN (c)))] []
  refine x_aload_n C 0 rfl rfl dX12_water_0 ?_
  refine x_iconst (v := 0) C dX12_water_1 ?_
  refine x_put C in_X12_water_X12 tyX12 tyX12_ok nmX12 0 rfl rfl 14 (by decide) (List.mem_of_getElem? (i := 1) rfl) rfl rfl rfl rfl rfl (Nat.le_of_ble_eq_true rfl) (WM X.γ a mh mn mkd mfg mag mpo mwy mdy mhw mkk mkf mrs mrm mrw 0 0 mgr mwa mre mpl mib msn mpn mlo mtl mke mim mhi mp0 mtk mki mun msd mbe) rfl dX12_water_2 ?_
  refine x_iload_n C 1 rfl rfl dX12_water_5 ?_
  refine x_i2l C (by omega) dX12_water_6 ?_
  refine x_ldc2 C (-1) (List.mem_of_getElem? (i := 2) rfl) (by decide) dX12_water_7 ?_
  refine x_ldc2 C (14) (List.mem_of_getElem? (i := 3) rfl) (by decide) dX12_water_10 ?_
  refine x_S_I C (As := [.long (jN (c)), .long (jN (-1)), .long (jN (14))]) (rest := []) 3 gX12_water_X12_in (c_X12_in _ _ (WM X.γ a mh mn mkd mfg mag mpo mwy mdy mhw mkk mkf mrs mrm mrw 0 0 mgr mwa mre mpl mib msn mpn mlo mtl mke mim mhi mp0 mtk mki mun msd mbe) (c) (-1) (14) (by omega) (by omega) (by omega)) rfl ok_X12_in rfl rfl rfl rfl dX12_water_13 (fun r w1 hp => ?_)
  obtain ⟨rfl, rfl⟩ := hp
  refine x_ifne_bz C 21 (by decide) dX12_water_16 (fun c_16 => ?_) (fun c_16 => ?_)
  · refine x_aload_n C 0 rfl rfl dX12_water_21 ?_
    refine x_V_I C (As := []) (rest := []) 0 0 rfl rfl gX12_water_X12_allWater rfl (c_X12_allWater0 _ _ a mh mn mkd mfg mag mpo mwy mdy mhw mkk mkf mrs mrm mrw 0 mgr mwa mre mpl mib msn mpn mlo mtl mke mim mhi mp0 mtk mki mun msd mbe hM) rfl ok_X12_allWater rfl rfl rfl rfl dX12_water_22 (fun r w1 hp => ?_)
    obtain ⟨rfl, rfl⟩ := hp
    show Wx X 0 0 (WM X.γ a mh mn mkd mfg mag mpo mwy mdy mhw mkk mkf mrs mrm mrw 0 0 (Ct.g (Lc mh mn mdy mkd mfg mag mpo mwy)) (Ct.w (Lc mh mn mdy mkd mfg mag mpo mwy)) mre mpl mib msn mpn mlo mtl mke mim mhi mp0 mtk mki mun msd mbe) 25 [(0, .ref (a 0)), (1, .int (iN (c)))] [.int (iN (Ct.allW (Lc mh mn mdy mkd mfg mag mpo mwy)))]
    have b63 := WFc.allW (WFm.L hM mdy)
    refine x_istore_n C [(2, .int (iN (Ct.allW (Lc mh mn mdy mkd mfg mag mpo mwy)))), (0, .ref (a 0)), (1, .int (iN (c)))] rfl (by decide) rfl dX12_water_25 ?_
    refine x_iload_n C 2 rfl rfl dX12_water_26 ?_
    refine x_if_ge C 34 (by decide) (by omega) dX12_water_27 (fun c_27 => ?_) (fun c_27 => ?_)
    · refine x_aload_n C 1 rfl rfl dX12_water_34 ?_
      refine x_get C in_X12_water_X12 0 rfl rfl 17 (by decide) (List.mem_of_getElem? (i := 4) rfl) rfl (v := .ref (a 14)) rfl dX12_water_35 ?_
      refine x_iload_n C 2 rfl rfl dX12_water_38 ?_
      refine x_iaload C (f := (Ct.w (Lc mh mn mdy mkd mfg mag mpo mwy))) 14 rfl (by omega) rfl dX12_water_39 ?_
      have b64 := WFc.w (WFm.L hM mdy) (c)
      exact hret _ _ _ _ dX12_water_40 rfl ⟨(by unfold q_water; omega), Wk.mk⟩
    · refine x_iload_n C 0 rfl rfl dX12_water_30 ?_
      refine x_goto C 40 (by decide) dX12_water_31 ?_
      exact hret _ _ _ _ dX12_water_40 rfl ⟨(by unfold q_water; omega), Wk.mk⟩
  · refine x_iconst (v := 0) C dX12_water_19 ?_
    exact hret _ _ _ _ dX12_water_20 rfl ⟨(by unfold q_water; omega), Wk.mk⟩
theorem in_X12_lakes_X12 : ∀ w ∈ u_ws RX12 TX12 34, w ∈ wsX12_lakes := by decide +kernel
theorem ok_X12_lakes : okY yX12_lakes 0 := by decide +kernel
def rmX12_lakes : Room := { frames := 4, cells := 0, slots := 0, locals := 92 }
set_option maxRecDepth 100000 in
set_option maxHeartbeats 400000 in
theorem c_X12_lakes (l : Launch) (γ : GX) (a : Nat → Nat) (mh : Int → Int) (mn : Int) (mkd : Int → Int) (mfg : Int → Int) (mag : Int → Int) (mpo : Int → Int) (mwy : Int → Int) (mdy : Int) (mhw : Int → Int) (mkk : Int → Int) (mkf : Int → Int) (mrs : Int → Int) (mrm : Int → Int) (mrw : Int → Int) (mth : Int) (mgr : Int → Int) (mwa : Int → Int) (mre : Int) (mpl : Int) (mib : Int) (msn : Int) (mpn : Int → Int) (mlo : Int → Int) (mtl : Int → Int) (mke : Int → Int) (mim : Int → Int) (mhi : Int) (mp0 : Int) (mtk : Int) (mki : Value) (mun : Int → Int) (msd : Int) (mbe : Int → Int) (hM : WFm mn mh mkd mfg mag mpo mwy mhw mkk mkf mrs mrm mrw) : MI l γ yX12_lakes wsX12_lakes rmX12_lakes [.ref (a 0)] (WM γ a mh mn mkd mfg mag mpo mwy mdy mhw mkk mkf mrs mrm mrw mth 0 mgr mwa mre mpl mib msn mpn mlo mtl mke mim mhi mp0 mtk mki mun msd mbe) (fun r_ w_ => r_ = q_lakes (Lc mh mn mdy mkd mfg mag mpo mwy) ∧ Wk γ a mh mn mkd mfg mag mpo mwy mdy mhw mkk mkf mrs mrm mrw 0 mim mhi w_) 0 0 := by
  refine MI.of (cc := cX12_lakes) (maxL := 3) (rt := .int) RX12 rfl (by decide +kernel) rfl (Nat.le_of_ble_eq_true rfl) ?_
  intro X C hγ hl hnm hret
  subst hγ
  have hMn := WFm.n hM
  show Wx X 0 0 (WM X.γ a mh mn mkd mfg mag mpo mwy mdy mhw mkk mkf mrs mrm mrw mth 0 mgr mwa mre mpl mib msn mpn mlo mtl mke mim mhi mp0 mtk mki mun msd mbe) 0 [(0, .ref (a 0))] []
  refine x_aload_n C 0 rfl rfl dX12_lakes_0 ?_
  refine x_iconst (v := 0) C dX12_lakes_1 ?_
  refine x_put C in_X12_lakes_X12 tyX12 tyX12_ok nmX12 0 rfl rfl 14 (by decide) (List.mem_of_getElem? (i := 1) rfl) rfl rfl rfl rfl rfl (Nat.le_of_ble_eq_true rfl) (WM X.γ a mh mn mkd mfg mag mpo mwy mdy mhw mkk mkf mrs mrm mrw 0 0 mgr mwa mre mpl mib msn mpn mlo mtl mke mim mhi mp0 mtk mki mun msd mbe) rfl dX12_lakes_2 ?_
  refine x_aload_n C 0 rfl rfl dX12_lakes_5 ?_
  refine x_V_I C (As := []) (rest := []) 0 0 rfl rfl gX12_lakes_X12_allWater rfl (c_X12_allWater0 _ _ a mh mn mkd mfg mag mpo mwy mdy mhw mkk mkf mrs mrm mrw 0 mgr mwa mre mpl mib msn mpn mlo mtl mke mim mhi mp0 mtk mki mun msd mbe hM) rfl ok_X12_allWater rfl rfl rfl rfl dX12_lakes_6 (fun r w1 hp => ?_)
  obtain ⟨rfl, rfl⟩ := hp
  show Wx X 0 0 (WM X.γ a mh mn mkd mfg mag mpo mwy mdy mhw mkk mkf mrs mrm mrw 0 0 (Ct.g (Lc mh mn mdy mkd mfg mag mpo mwy)) (Ct.w (Lc mh mn mdy mkd mfg mag mpo mwy)) mre mpl mib msn mpn mlo mtl mke mim mhi mp0 mtk mki mun msd mbe) 9 [(0, .ref (a 0))] [.int (iN (Ct.allW (Lc mh mn mdy mkd mfg mag mpo mwy)))]
  have b65 := WFc.allW (WFm.L hM mdy)
  refine x_pop C rfl dX12_lakes_9 ?_
  refine x_iconst (v := 0) C dX12_lakes_10 ?_
  refine x_istore_n C [(1, .int (iN (0))), (0, .ref (a 0))] rfl (by decide) rfl dX12_lakes_11 ?_
  refine x_iconst (v := 0) C dX12_lakes_12 ?_
  refine x_istore_n C [(2, .int (iN (1))), (1, .int (iN (0))), (0, .ref (a 0))] rfl (by decide) rfl dX12_lakes_13 ?_
  have LP14 : ∀ (f : Nat) (k : Nat) (v2_14 : Int) (v1_14 : Int), (13 - k < f) → (k ≤ 13) → (((k : Int) + 1) = v2_14) → (v1_14 = (sumz (q_lake (Lc mh mn mdy mkd mfg mag mpo mwy)) k)) → Wx X 0 0 (WM X.γ a mh mn mkd mfg mag mpo mwy mdy mhw mkk mkf mrs mrm mrw 0 0 (Ct.g (Lc mh mn mdy mkd mfg mag mpo mwy)) (Ct.w (Lc mh mn mdy mkd mfg mag mpo mwy)) mre mpl mib msn mpn mlo mtl mke mim mhi mp0 mtk mki mun msd mbe) 14 [(2, .int (iN (v2_14))), (1, .int (iN (v1_14))), (0, .ref (a 0))] [] := by
    intro f
    induction f with
    | zero => intro k v2_14 v1_14 hf; exact absurd hf (Nat.not_lt_zero _)
    | succ f ih14 =>
      intro k v2_14 v1_14 hf hk e2_14 e1_14
      subst e2_14
      refine x_iload_n C 0 rfl rfl dX12_lakes_14 ?_
      refine x_bipush C (14) (by decide) dX12_lakes_15 ?_
      refine x_icmp_ge C 54 (by decide) (by omega) dX12_lakes_17 (fun c_17 => ?_) (fun c_17 => ?_)
      · refine x_iload_n C 1 rfl rfl dX12_lakes_54 ?_
        exact hret _ _ _ _ dX12_lakes_55 rfl ⟨(by have hz : k = 13 := (by omega); subst hz; exact e1_14), Wk.mk⟩
      · refine x_iload_n C 1 rfl rfl dX12_lakes_20 ?_
        refine x_aload_n C 2 rfl rfl dX12_lakes_21 ?_
        refine x_get C in_X12_lakes_X12 0 rfl rfl 17 (by decide) (List.mem_of_getElem? (i := 2) rfl) rfl (v := .ref (a 14)) rfl dX12_lakes_22 ?_
        refine x_iload_n C 0 rfl rfl dX12_lakes_25 ?_
        refine x_iaload C (f := (Ct.w (Lc mh mn mdy mkd mfg mag mpo mwy))) 14 rfl (by omega) rfl dX12_lakes_26 ?_
        have b66 := WFc.w (WFm.L hM mdy) ((k : Int) + 1)
        have LP46 : ∀ (s0_46 : Int), (s0_46 = (q_lake (Lc mh mn mdy mkd mfg mag mpo mwy) (k : Int))) → Wx X 0 0 (WM X.γ a mh mn mkd mfg mag mpo mwy mdy mhw mkk mkf mrs mrm mrw 0 0 (Ct.g (Lc mh mn mdy mkd mfg mag mpo mwy)) (Ct.w (Lc mh mn mdy mkd mfg mag mpo mwy)) mre mpl mib msn mpn mlo mtl mke mim mhi mp0 mtk mki mun msd mbe) 46 [(2, .int (iN ((k : Int) + 1))), (1, .int (iN (v1_14))), (0, .ref (a 0))] [.int (iN (s0_46)), .int (iN (v1_14))] := by
          intro s0_46 es0_46
          refine x_iadd C dX12_lakes_46 ?_
          refine x_istore_n C [(1, .int (iN (v1_14 + s0_46))), (2, .int (iN ((k : Int) + 1))), (0, .ref (a 0))] rfl (by decide) rfl dX12_lakes_47 ?_
          refine x_iinc C 1 [(2, .int (iN (((k : Int) + 1) + 1))), (1, .int (iN (v1_14 + s0_46))), (0, .ref (a 0))] rfl rfl (by decide) rfl dX12_lakes_48 ?_
          refine x_goto C 14 (by decide) dX12_lakes_51 ?_
          exact ih14 (k + 1) _ _ (by omega) (by omega) (by omega) (by simp only [sumz]; rw [e1_14, es0_46])
        refine x_if_le C 45 (by decide) (by omega) dX12_lakes_27 (fun c_27 => ?_) (fun c_27 => ?_)
        · refine x_iconst (v := 0) C dX12_lakes_45 ?_
          exact LP46 _ (by unfold q_lake; have bw1 := WFc.w (WFm.L hM mdy) ((k : Int) + 1); have bw0 := WFc.w (WFm.L hM mdy) (k : Int); omega)
        · refine x_aload_n C 2 rfl rfl dX12_lakes_30 ?_
          refine x_get C in_X12_lakes_X12 0 rfl rfl 17 (by decide) (List.mem_of_getElem? (i := 2) rfl) rfl (v := .ref (a 14)) rfl dX12_lakes_31 ?_
          refine x_iload_n C 0 rfl rfl dX12_lakes_34 ?_
          refine x_iconst (v := 0) C dX12_lakes_35 ?_
          refine x_isub C dX12_lakes_36 ?_
          refine x_iaload C (f := (Ct.w (Lc mh mn mdy mkd mfg mag mpo mwy))) 14 rfl (by omega) rfl dX12_lakes_37 ?_
          have b67 := WFc.w (WFm.L hM mdy) (((k : Int) + 1) - 1)
          refine x_if_ne C 45 (by decide) (by omega) dX12_lakes_38 (fun c_38 => ?_) (fun c_38 => ?_)
          · refine x_iconst (v := 0) C dX12_lakes_45 ?_
            exact LP46 _ (by unfold q_lake; rw [show ((k : Int) + 1 - 1) = (k : Int) by omega] at c_38; have bw1 := WFc.w (WFm.L hM mdy) ((k : Int) + 1); have bw0 := WFc.w (WFm.L hM mdy) (k : Int); omega)
          · refine x_iconst (v := 0) C dX12_lakes_41 ?_
            refine x_goto C 46 (by decide) dX12_lakes_42 ?_
            exact LP46 _ (by unfold q_lake; rw [show ((k : Int) + 1 - 1) = (k : Int) by omega] at c_38; have bw1 := WFc.w (WFm.L hM mdy) ((k : Int) + 1); have bw0 := WFc.w (WFm.L hM mdy) (k : Int); omega)
  exact LP14 ((13 - (0)) + 1) (0) _ _ (by omega) (by omega) (by omega) (rfl)
theorem in_X12_rise_X12 : ∀ w ∈ u_ws RX12 TX12 34, w ∈ wsX12_rise := by decide +kernel
theorem ok_X12_rise : okY yX12_rise 1 := by decide +kernel
def rmX12_rise : Room := { frames := 3, cells := 0, slots := 0, locals := 67 }
set_option maxRecDepth 100000 in
set_option maxHeartbeats 400000 in
theorem c_X12_rise (l : Launch) (γ : GX) (a : Nat → Nat) (mh : Int → Int) (mn : Int) (mkd : Int → Int) (mfg : Int → Int) (mag : Int → Int) (mpo : Int → Int) (mwy : Int → Int) (mdy : Int) (mhw : Int → Int) (mkk : Int → Int) (mkf : Int → Int) (mrs : Int → Int) (mrm : Int → Int) (mrw : Int → Int) (mth : Int) (mgr : Int → Int) (mwa : Int → Int) (mre : Int) (mpl : Int) (mib : Int) (msn : Int) (mpn : Int → Int) (mlo : Int → Int) (mtl : Int → Int) (mke : Int → Int) (mim : Int → Int) (mhi : Int) (mp0 : Int) (mtk : Int) (mki : Value) (mun : Int → Int) (msd : Int) (mbe : Int → Int) (hM : WFm mn mh mkd mfg mag mpo mwy mhw mkk mkf mrs mrm mrw) (c : Int) (h0_ : -2147483648 ≤ c ∧ c < 2147483648) : MI l γ yX12_rise wsX12_rise rmX12_rise [.ref (a 0), .int (iN (c))] (WM γ a mh mn mkd mfg mag mpo mwy mdy mhw mkk mkf mrs mrm mrw mth 0 mgr mwa mre mpl mib msn mpn mlo mtl mke mim mhi mp0 mtk mki mun msd mbe) (fun r_ w_ => r_ = (if 0 ≤ c ∧ c ≤ 13 then Ct.g (Lc mh mn mdy mkd mfg mag mpo mwy) (c + 1) - Ct.g (Lc mh mn mdy mkd mfg mag mpo mwy) c else 1000000001) ∧ Wk γ a mh mn mkd mfg mag mpo mwy mdy mhw mkk mkf mrs mrm mrw 0 mim mhi w_) 0 0 := by
  refine MI.of (cc := cX12_rise) (maxL := 2) (rt := .int) RX12 rfl (by decide +kernel) rfl (Nat.le_of_ble_eq_true rfl) ?_
  intro X C hγ hl hnm hret
  subst hγ
  have hMn := WFm.n hM
  show Wx X 0 0 (WM X.γ a mh mn mkd mfg mag mpo mwy mdy mhw mkk mkf mrs mrm mrw mth 0 mgr mwa mre mpl mib msn mpn mlo mtl mke mim mhi mp0 mtk mki mun msd mbe) 0 [(0, .ref (a 0)), (1, .int (iN (c)))] []
  refine x_aload_n C 0 rfl rfl dX12_rise_0 ?_
  refine x_iconst (v := 0) C dX12_rise_1 ?_
  refine x_put C in_X12_rise_X12 tyX12 tyX12_ok nmX12 0 rfl rfl 14 (by decide) (List.mem_of_getElem? (i := 1) rfl) rfl rfl rfl rfl rfl (Nat.le_of_ble_eq_true rfl) (WM X.γ a mh mn mkd mfg mag mpo mwy mdy mhw mkk mkf mrs mrm mrw 0 0 mgr mwa mre mpl mib msn mpn mlo mtl mke mim mhi mp0 mtk mki mun msd mbe) rfl dX12_rise_2 ?_
  refine x_iload_n C 1 rfl rfl dX12_rise_5 ?_
  refine x_i2l C (by omega) dX12_rise_6 ?_
  refine x_lconst C 0 rfl dX12_rise_7 ?_
  refine x_ldc2 C (13) (List.mem_of_getElem? (i := 2) rfl) (by decide) dX12_rise_8 ?_
  refine x_S_I C (As := [.long (jN (c)), .long (jN (0)), .long (jN (13))]) (rest := []) 3 gX12_rise_X12_in (c_X12_in _ _ (WM X.γ a mh mn mkd mfg mag mpo mwy mdy mhw mkk mkf mrs mrm mrw 0 0 mgr mwa mre mpl mib msn mpn mlo mtl mke mim mhi mp0 mtk mki mun msd mbe) (c) (0) (13) (by omega) (by omega) (by omega)) rfl ok_X12_in rfl rfl rfl rfl dX12_rise_11 (fun r w1 hp => ?_)
  obtain ⟨rfl, rfl⟩ := hp
  refine x_ifne_bz C 20 (by decide) dX12_rise_14 (fun c_14 => ?_) (fun c_14 => ?_)
  · refine x_aload_n C 0 rfl rfl dX12_rise_20 ?_
    refine x_V_V C (As := []) (rest := []) 0 0 rfl rfl gX12_rise_X12_layGround rfl (c_X12_layGround0 _ _ a mh mn mkd mfg mag mpo mwy mdy mhw mkk mkf mrs mrm mrw 0 mgr mwa mre mpl mib msn mpn mlo mtl mke mim mhi mp0 mtk mki mun msd mbe hM) rfl ok_X12_layGround rfl rfl rfl rfl dX12_rise_21 (fun w1 hp => ?_)
    obtain rfl := hp
    refine x_aload_n C 0 rfl rfl dX12_rise_24 ?_
    refine x_iload_n C 1 rfl rfl dX12_rise_25 ?_
    refine x_V_I C (As := [.int (iN (c))]) (rest := []) 1 0 rfl rfl gX12_rise_X12_riseAt rfl (c_X12_riseAt _ _ a mh mn mkd mfg mag mpo mwy mdy mhw mkk mkf mrs mrm mrw 0 0 (Ct.g (Lc mh mn mdy mkd mfg mag mpo mwy)) mwa mre mpl mib msn mpn mlo mtl mke mim mhi mp0 mtk mki mun msd mbe (c) (by omega)) rfl ok_X12_riseAt rfl rfl rfl rfl dX12_rise_26 (fun r w1 hp => ?_)
    obtain ⟨rfl, rfl⟩ := hp
    show Wx X 0 0 (WM X.γ a mh mn mkd mfg mag mpo mwy mdy mhw mkk mkf mrs mrm mrw 0 0 (Ct.g (Lc mh mn mdy mkd mfg mag mpo mwy)) mwa mre mpl mib msn mpn mlo mtl mke mim mhi mp0 mtk mki mun msd mbe) 29 [(0, .ref (a 0)), (1, .int (iN (c)))] [.int (iN ((Ct.g (Lc mh mn mdy mkd mfg mag mpo mwy)) (c + 1) - (Ct.g (Lc mh mn mdy mkd mfg mag mpo mwy)) c))]
    have b68 := WFc.g (WFm.L hM mdy) (c)
    have b69 := WFc.g (WFm.L hM mdy) (c + 1)
    exact hret _ _ _ _ dX12_rise_29 rfl ⟨(by omega), Wk.mk⟩
  · refine x_ldc C (1000000001) (List.mem_of_getElem? (i := 3) rfl) (by decide) dX12_rise_17 ?_
    exact hret _ _ _ _ dX12_rise_19 rfl ⟨(by omega), Wk.mk⟩
theorem in_X12_behind_X12 : ∀ w ∈ u_ws RX12 TX12 34, w ∈ wsX12_behind := by decide +kernel
theorem ok_X12_behind : okY yX12_behind 2 := by decide +kernel
def rmX12_behind : Room := { frames := 7, cells := 0, slots := 0, locals := 155 }
set_option maxRecDepth 100000 in
set_option maxHeartbeats 400000 in
theorem c_X12_behind (l : Launch) (γ : GX) (a : Nat → Nat) (mh : Int → Int) (mn : Int) (mkd : Int → Int) (mfg : Int → Int) (mag : Int → Int) (mpo : Int → Int) (mwy : Int → Int) (mdy : Int) (mhw : Int → Int) (mkk : Int → Int) (mkf : Int → Int) (mrs : Int → Int) (mrm : Int → Int) (mrw : Int → Int) (mth : Int) (mgr : Int → Int) (mwa : Int → Int) (mre : Int) (mpl : Int) (mib : Int) (msn : Int) (mpn : Int → Int) (mlo : Int → Int) (mtl : Int → Int) (mke : Int → Int) (mim : Int → Int) (mhi : Int) (mp0 : Int) (mtk : Int) (mki : Value) (mun : Int → Int) (msd : Int) (mbe : Int → Int) (hM : WFm mn mh mkd mfg mag mpo mwy mhw mkk mkf mrs mrm mrw) (i : Int) (m : Int) (h0_ : -2147483648 ≤ i ∧ i < 2147483648) (h1_ : -2147483648 ≤ m ∧ m < 2147483648) : MI l γ yX12_behind wsX12_behind rmX12_behind [.ref (a 0), .int (iN (i)), .int (iN (m))] (WM γ a mh mn mkd mfg mag mpo mwy mdy mhw mkk mkf mrs mrm mrw mth 0 mgr mwa mre mpl mib msn mpn mlo mtl mke mim mhi mp0 mtk mki mun msd mbe) (fun r_ w_ => r_ = q_behind (Lc mh mn mdy mkd mfg mag mpo mwy) i m ∧ Wk γ a mh mn mkd mfg mag mpo mwy mdy mhw mkk mkf mrs mrm mrw 0 mim mhi w_) 0 0 := by
  refine MI.of (cc := cX12_behind) (maxL := 4) (rt := .int) RX12 rfl (by decide +kernel) rfl (Nat.le_of_ble_eq_true rfl) ?_
  intro X C hγ hl hnm hret
  subst hγ
  have hMn := WFm.n hM
  show Wx X 0 0 (WM X.γ a mh mn mkd mfg mag mpo mwy mdy mhw mkk mkf mrs mrm mrw mth 0 mgr mwa mre mpl mib msn mpn mlo mtl mke mim mhi mp0 mtk mki mun msd mbe) 0 [(0, .ref (a 0)), (1, .int (iN (i))), (2, .int (iN (m)))] []
  refine x_aload_n C 0 rfl rfl dX12_behind_0 ?_
  refine x_iconst (v := 0) C dX12_behind_1 ?_
  refine x_put C in_X12_behind_X12 tyX12 tyX12_ok nmX12 0 rfl rfl 14 (by decide) (List.mem_of_getElem? (i := 1) rfl) rfl rfl rfl rfl rfl (Nat.le_of_ble_eq_true rfl) (WM X.γ a mh mn mkd mfg mag mpo mwy mdy mhw mkk mkf mrs mrm mrw 0 0 mgr mwa mre mpl mib msn mpn mlo mtl mke mim mhi mp0 mtk mki mun msd mbe) rfl dX12_behind_2 ?_
  refine x_aload_n C 0 rfl rfl dX12_behind_5 ?_
  refine x_iload_n C 1 rfl rfl dX12_behind_6 ?_
  refine x_V_I C (As := [.int (iN (i))]) (rest := []) 1 0 rfl rfl gX12_behind_X12_isOne rfl (c_X12_isOne _ _ a mh mn mkd mfg mag mpo mwy mdy mhw mkk mkf mrs mrm mrw 0 0 mgr mwa mre mpl mib msn mpn mlo mtl mke mim mhi mp0 mtk mki mun msd mbe hM (i) (by omega)) rfl ok_X12_isOne rfl rfl rfl rfl dX12_behind_7 (fun r w1 hp => ?_)
  obtain ⟨rfl, rfl⟩ := hp
  refine x_ifeq_bz C 25 (by decide) dX12_behind_10 (fun c_10 => ?_) (fun c_10 => ?_)
  · refine x_iconst (v := 0) C dX12_behind_25 ?_
    exact hret _ _ _ _ dX12_behind_26 rfl ⟨(by unfold q_behind; rw [if_neg (show ¬ (q_one (Lc mh mn mdy mkd mfg mag mpo mwy) i ∧ 0 ≤ m ∧ m ≤ 60) from (show ¬ ((0 ≤ i ∧ i ≤ mn - 1) ∧ 0 ≤ m ∧ m ≤ 60) by omega))]), Wk.mk⟩
  · refine x_iload_n C 2 rfl rfl dX12_behind_13 ?_
    refine x_i2l C (by omega) dX12_behind_14 ?_
    refine x_lconst C 0 rfl dX12_behind_15 ?_
    refine x_ldc2 C (60) (List.mem_of_getElem? (i := 2) rfl) (by decide) dX12_behind_16 ?_
    refine x_S_I C (As := [.long (jN (m)), .long (jN (0)), .long (jN (60))]) (rest := []) 3 gX12_behind_X12_in (c_X12_in _ _ (WM X.γ a mh mn mkd mfg mag mpo mwy mdy mhw mkk mkf mrs mrm mrw 0 0 mgr mwa mre mpl mib msn mpn mlo mtl mke mim mhi mp0 mtk mki mun msd mbe) (m) (0) (60) (by omega) (by omega) (by omega)) rfl ok_X12_in rfl rfl rfl rfl dX12_behind_19 (fun r w1 hp => ?_)
    obtain ⟨rfl, rfl⟩ := hp
    refine x_ifne_bz C 27 (by decide) dX12_behind_22 (fun c_22 => ?_) (fun c_22 => ?_)
    · refine x_aload_n C 0 rfl rfl dX12_behind_27 ?_
      refine x_V_V C (As := []) (rest := []) 0 0 rfl rfl gX12_behind_X12_open rfl (c_X12_open _ _ a mh mn mkd mfg mag mpo mwy mdy mhw mkk mkf mrs mrm mrw 0 0 mgr mwa mre mpl mib msn mpn mlo mtl mke mim mhi mp0 mtk mki mun msd mbe) rfl ok_X12_open rfl rfl rfl rfl dX12_behind_28 (fun w1 hp => ?_)
      obtain rfl := hp
      refine x_aload_n C 0 rfl rfl dX12_behind_31 ?_
      refine x_iload_n C 2 rfl rfl dX12_behind_32 ?_
      refine x_V_V C (As := [.int (iN (m))]) (rest := []) 1 0 rfl rfl gX12_behind_X12_goDays rfl (c_X12_goDays _ _ a mh mn mkd mfg mag mpo mwy mdy mhw mkk mkf mrs mrm mrw 0 mgr mwa mre mpl mib msn mpn mlo mtl (pck mh mn mdy mkd mfg mag mpo mwy) mim mhi 47 1 (.ref (a 18)) mun msd mbe hM (m) (by omega)) rfl ok_X12_goDays rfl rfl rfl rfl dX12_behind_33 (fun w1 hp => ?_)
      obtain ⟨Gb70, rfl⟩ := hp
      refine x_aload_n C 0 rfl rfl dX12_behind_36 ?_
      refine x_get C in_X12_behind_X12 0 rfl rfl 5 (by decide) (List.mem_of_getElem? (i := 3) rfl) rfl (v := .ref (a 5)) rfl dX12_behind_37 ?_
      refine x_iload_n C 1 rfl rfl dX12_behind_40 ?_
      refine x_iaload C (f := (Ct.po (Ct.days (Lc mh mn mdy mkd mfg mag mpo mwy) (m).toNat))) 5 rfl (by omega) rfl dX12_behind_41 ?_
      have b71 := (Ct.days_wf (WFm.L hM mdy) (m).toNat).po (i)
      refine x_istore_n C [(3, .int (iN ((Ct.po (Ct.days (Lc mh mn mdy mkd mfg mag mpo mwy) (m).toNat)) i))), (0, .ref (a 0)), (1, .int (iN (i))), (2, .int (iN (m)))] rfl (by decide) rfl dX12_behind_42 ?_
      refine x_aload_n C 1 rfl rfl dX12_behind_43 ?_
      refine x_V_V C (As := []) (rest := []) 0 0 rfl rfl gX12_behind_X12_close rfl (c_X12_close _ _ a mh mn mkd mfg mag (Ct.po (Ct.days (Lc mh mn mdy mkd mfg mag mpo mwy) (m).toNat)) (Ct.wy (Ct.days (Lc mh mn mdy mkd mfg mag mpo mwy) (m).toNat)) (Ct.dy (Ct.days (Lc mh mn mdy mkd mfg mag mpo mwy) (m).toNat)) mhw mkk mkf mrs mrm mrw 0 0 Gb70 mwa mre mpl mib msn mpn mlo mtl mim mhi 47 1 (.ref (a 18)) mun msd mbe mh mn mdy mkd mfg mag mpo mwy) rfl ok_X12_close rfl rfl rfl rfl dX12_behind_44 (fun w1 hp => ?_)
      obtain rfl := hp
      refine x_iload_n C 0 rfl rfl dX12_behind_47 ?_
      exact hret _ _ _ _ dX12_behind_48 rfl ⟨(by unfold q_behind; rw [if_pos (show q_one (Lc mh mn mdy mkd mfg mag mpo mwy) i ∧ 0 ≤ m ∧ m ≤ 60 from (show (0 ≤ i ∧ i ≤ mn - 1) ∧ 0 ≤ m ∧ m ≤ 60 by omega))]), Wk.mk⟩
    · refine x_iconst (v := 0) C dX12_behind_25 ?_
      exact hret _ _ _ _ dX12_behind_26 rfl ⟨(by unfold q_behind; rw [if_neg (show ¬ (q_one (Lc mh mn mdy mkd mfg mag mpo mwy) i ∧ 0 ≤ m ∧ m ≤ 60) from (show ¬ ((0 ≤ i ∧ i ≤ mn - 1) ∧ 0 ≤ m ∧ m ≤ 60) by omega))]), Wk.mk⟩
theorem in_X12_groundThen_X12 : ∀ w ∈ u_ws RX12 TX12 34, w ∈ wsX12_groundThen := by decide +kernel
theorem ok_X12_groundThen : okY yX12_groundThen 2 := by decide +kernel
def rmX12_groundThen : Room := { frames := 7, cells := 0, slots := 0, locals := 155 }
set_option maxRecDepth 100000 in
set_option maxHeartbeats 400000 in
theorem c_X12_groundThen (l : Launch) (γ : GX) (a : Nat → Nat) (mh : Int → Int) (mn : Int) (mkd : Int → Int) (mfg : Int → Int) (mag : Int → Int) (mpo : Int → Int) (mwy : Int → Int) (mdy : Int) (mhw : Int → Int) (mkk : Int → Int) (mkf : Int → Int) (mrs : Int → Int) (mrm : Int → Int) (mrw : Int → Int) (mth : Int) (mgr : Int → Int) (mwa : Int → Int) (mre : Int) (mpl : Int) (mib : Int) (msn : Int) (mpn : Int → Int) (mlo : Int → Int) (mtl : Int → Int) (mke : Int → Int) (mim : Int → Int) (mhi : Int) (mp0 : Int) (mtk : Int) (mki : Value) (mun : Int → Int) (msd : Int) (mbe : Int → Int) (hM : WFm mn mh mkd mfg mag mpo mwy mhw mkk mkf mrs mrm mrw) (c : Int) (m : Int) (h0_ : -2147483648 ≤ c ∧ c < 2147483648) (h1_ : -2147483648 ≤ m ∧ m < 2147483648) : MI l γ yX12_groundThen wsX12_groundThen rmX12_groundThen [.ref (a 0), .int (iN (c)), .int (iN (m))] (WM γ a mh mn mkd mfg mag mpo mwy mdy mhw mkk mkf mrs mrm mrw mth 0 mgr mwa mre mpl mib msn mpn mlo mtl mke mim mhi mp0 mtk mki mun msd mbe) (fun r_ w_ => r_ = q_then (Lc mh mn mdy mkd mfg mag mpo mwy) c m ∧ Wk γ a mh mn mkd mfg mag mpo mwy mdy mhw mkk mkf mrs mrm mrw 0 mim mhi w_) 0 0 := by
  refine MI.of (cc := cX12_groundThen) (maxL := 4) (rt := .int) RX12 rfl (by decide +kernel) rfl (Nat.le_of_ble_eq_true rfl) ?_
  intro X C hγ hl hnm hret
  subst hγ
  have hMn := WFm.n hM
  show Wx X 0 0 (WM X.γ a mh mn mkd mfg mag mpo mwy mdy mhw mkk mkf mrs mrm mrw mth 0 mgr mwa mre mpl mib msn mpn mlo mtl mke mim mhi mp0 mtk mki mun msd mbe) 0 [(0, .ref (a 0)), (1, .int (iN (c))), (2, .int (iN (m)))] []
  refine x_aload_n C 0 rfl rfl dX12_groundThen_0 ?_
  refine x_iconst (v := 0) C dX12_groundThen_1 ?_
  refine x_put C in_X12_groundThen_X12 tyX12 tyX12_ok nmX12 0 rfl rfl 14 (by decide) (List.mem_of_getElem? (i := 1) rfl) rfl rfl rfl rfl rfl (Nat.le_of_ble_eq_true rfl) (WM X.γ a mh mn mkd mfg mag mpo mwy mdy mhw mkk mkf mrs mrm mrw 0 0 mgr mwa mre mpl mib msn mpn mlo mtl mke mim mhi mp0 mtk mki mun msd mbe) rfl dX12_groundThen_2 ?_
  refine x_iload_n C 1 rfl rfl dX12_groundThen_5 ?_
  refine x_i2l C (by omega) dX12_groundThen_6 ?_
  refine x_ldc2 C (-1) (List.mem_of_getElem? (i := 2) rfl) (by decide) dX12_groundThen_7 ?_
  refine x_ldc2 C (14) (List.mem_of_getElem? (i := 3) rfl) (by decide) dX12_groundThen_10 ?_
  refine x_S_I C (As := [.long (jN (c)), .long (jN (-1)), .long (jN (14))]) (rest := []) 3 gX12_groundThen_X12_in (c_X12_in _ _ (WM X.γ a mh mn mkd mfg mag mpo mwy mdy mhw mkk mkf mrs mrm mrw 0 0 mgr mwa mre mpl mib msn mpn mlo mtl mke mim mhi mp0 mtk mki mun msd mbe) (c) (-1) (14) (by omega) (by omega) (by omega)) rfl ok_X12_in rfl rfl rfl rfl dX12_groundThen_13 (fun r w1 hp => ?_)
  obtain ⟨rfl, rfl⟩ := hp
  refine x_ifeq_bz C 31 (by decide) dX12_groundThen_16 (fun c_16 => ?_) (fun c_16 => ?_)
  · refine x_iconst (v := 0) C dX12_groundThen_31 ?_
    exact hret _ _ _ _ dX12_groundThen_32 rfl ⟨(by unfold q_then; rw [if_neg (show ¬ ((-1 ≤ c ∧ c ≤ 14) ∧ 0 ≤ m ∧ m ≤ 60) by omega)]), Wk.mk⟩
  · refine x_iload_n C 2 rfl rfl dX12_groundThen_19 ?_
    refine x_i2l C (by omega) dX12_groundThen_20 ?_
    refine x_lconst C 0 rfl dX12_groundThen_21 ?_
    refine x_ldc2 C (60) (List.mem_of_getElem? (i := 4) rfl) (by decide) dX12_groundThen_22 ?_
    refine x_S_I C (As := [.long (jN (m)), .long (jN (0)), .long (jN (60))]) (rest := []) 3 gX12_groundThen_X12_in (c_X12_in _ _ (WM X.γ a mh mn mkd mfg mag mpo mwy mdy mhw mkk mkf mrs mrm mrw 0 0 mgr mwa mre mpl mib msn mpn mlo mtl mke mim mhi mp0 mtk mki mun msd mbe) (m) (0) (60) (by omega) (by omega) (by omega)) rfl ok_X12_in rfl rfl rfl rfl dX12_groundThen_25 (fun r w1 hp => ?_)
    obtain ⟨rfl, rfl⟩ := hp
    refine x_ifne_bz C 33 (by decide) dX12_groundThen_28 (fun c_28 => ?_) (fun c_28 => ?_)
    · refine x_aload_n C 0 rfl rfl dX12_groundThen_33 ?_
      refine x_V_V C (As := []) (rest := []) 0 0 rfl rfl gX12_groundThen_X12_open rfl (c_X12_open _ _ a mh mn mkd mfg mag mpo mwy mdy mhw mkk mkf mrs mrm mrw 0 0 mgr mwa mre mpl mib msn mpn mlo mtl mke mim mhi mp0 mtk mki mun msd mbe) rfl ok_X12_open rfl rfl rfl rfl dX12_groundThen_34 (fun w1 hp => ?_)
      obtain rfl := hp
      refine x_aload_n C 0 rfl rfl dX12_groundThen_37 ?_
      refine x_iload_n C 2 rfl rfl dX12_groundThen_38 ?_
      refine x_V_V C (As := [.int (iN (m))]) (rest := []) 1 0 rfl rfl gX12_groundThen_X12_goDays rfl (c_X12_goDays _ _ a mh mn mkd mfg mag mpo mwy mdy mhw mkk mkf mrs mrm mrw 0 mgr mwa mre mpl mib msn mpn mlo mtl (pck mh mn mdy mkd mfg mag mpo mwy) mim mhi 47 1 (.ref (a 18)) mun msd mbe hM (m) (by omega)) rfl ok_X12_goDays rfl rfl rfl rfl dX12_groundThen_39 (fun w1 hp => ?_)
      obtain ⟨Gb72, rfl⟩ := hp
      refine x_iload_n C 1 rfl rfl dX12_groundThen_42 ?_
      refine x_if_ge C 53 (by decide) (by omega) dX12_groundThen_43 (fun c_43 => ?_) (fun c_43 => ?_)
      · refine x_aload_n C 0 rfl rfl dX12_groundThen_53 ?_
        refine x_iload_n C 1 rfl rfl dX12_groundThen_54 ?_
        refine x_V_I C (As := [.int (iN (c))]) (rest := []) 1 0 rfl rfl gX12_groundThen_X12_groundAt rfl (c_X12_groundAt _ _ a mh mn mkd mfg mag (Ct.po (Ct.days (Lc mh mn mdy mkd mfg mag mpo mwy) (m).toNat)) (Ct.wy (Ct.days (Lc mh mn mdy mkd mfg mag mpo mwy) (m).toNat)) (Ct.dy (Ct.days (Lc mh mn mdy mkd mfg mag mpo mwy) (m).toNat)) mhw mkk mkf mrs mrm mrw 0 Gb72 mwa mre mpl mib msn mpn mlo mtl (pck mh mn mdy mkd mfg mag mpo mwy) mim mhi 47 1 (.ref (a 18)) mun msd mbe (WFm.pw hM (Ct.days_wf (WFm.L hM mdy) (m).toNat).po (Ct.days_wf (WFm.L hM mdy) (m).toNat).wy) (c) (by omega)) rfl ok_X12_groundAt rfl rfl rfl rfl dX12_groundThen_55 (fun r w1 hp => ?_)
        obtain ⟨rfl, rfl⟩ := hp
        show Wx X 0 0 (WM X.γ a mh mn mkd mfg mag (Ct.po (Ct.days (Lc mh mn mdy mkd mfg mag mpo mwy) (m).toNat)) (Ct.wy (Ct.days (Lc mh mn mdy mkd mfg mag mpo mwy) (m).toNat)) (Ct.dy (Ct.days (Lc mh mn mdy mkd mfg mag mpo mwy) (m).toNat)) mhw mkk mkf mrs mrm mrw 0 0 (Ct.g (Lc mh mn (Ct.dy (Ct.days (Lc mh mn mdy mkd mfg mag mpo mwy) (m).toNat)) mkd mfg mag (Ct.po (Ct.days (Lc mh mn mdy mkd mfg mag mpo mwy) (m).toNat)) (Ct.wy (Ct.days (Lc mh mn mdy mkd mfg mag mpo mwy) (m).toNat)))) mwa mre mpl mib msn mpn mlo mtl (pck mh mn mdy mkd mfg mag mpo mwy) mim mhi 47 1 (.ref (a 18)) mun msd mbe) 58 [(0, .ref (a 0)), (1, .int (iN (c))), (2, .int (iN (m)))] [.int (iN (Ct.g (Lc mh mn (Ct.dy (Ct.days (Lc mh mn mdy mkd mfg mag mpo mwy) (m).toNat)) mkd mfg mag (Ct.po (Ct.days (Lc mh mn mdy mkd mfg mag mpo mwy) (m).toNat)) (Ct.wy (Ct.days (Lc mh mn mdy mkd mfg mag mpo mwy) (m).toNat))) c))]
        have b73 := WFc.g (WFm.L (WFm.pw hM (Ct.days_wf (WFm.L hM mdy) (m).toNat).po (Ct.days_wf (WFm.L hM mdy) (m).toNat).wy) (Ct.dy (Ct.days (Lc mh mn mdy mkd mfg mag mpo mwy) (m).toNat))) c
        refine x_istore_n C [(3, .int (iN (Ct.g (Lc mh mn (Ct.dy (Ct.days (Lc mh mn mdy mkd mfg mag mpo mwy) (m).toNat)) mkd mfg mag (Ct.po (Ct.days (Lc mh mn mdy mkd mfg mag mpo mwy) (m).toNat)) (Ct.wy (Ct.days (Lc mh mn mdy mkd mfg mag mpo mwy) (m).toNat))) c))), (0, .ref (a 0)), (1, .int (iN (c))), (2, .int (iN (m)))] rfl (by decide) rfl dX12_groundThen_58 ?_
        refine x_aload_n C 1 rfl rfl dX12_groundThen_59 ?_
        refine x_V_V C (As := []) (rest := []) 0 0 rfl rfl gX12_groundThen_X12_close rfl (c_X12_close _ _ a mh mn mkd mfg mag (Ct.po (Ct.days (Lc mh mn mdy mkd mfg mag mpo mwy) (m).toNat)) (Ct.wy (Ct.days (Lc mh mn mdy mkd mfg mag mpo mwy) (m).toNat)) (Ct.dy (Ct.days (Lc mh mn mdy mkd mfg mag mpo mwy) (m).toNat)) mhw mkk mkf mrs mrm mrw 0 0 (Ct.g (Lc mh mn (Ct.dy (Ct.days (Lc mh mn mdy mkd mfg mag mpo mwy) (m).toNat)) mkd mfg mag (Ct.po (Ct.days (Lc mh mn mdy mkd mfg mag mpo mwy) (m).toNat)) (Ct.wy (Ct.days (Lc mh mn mdy mkd mfg mag mpo mwy) (m).toNat)))) mwa mre mpl mib msn mpn mlo mtl mim mhi 47 1 (.ref (a 18)) mun msd mbe mh mn mdy mkd mfg mag mpo mwy) rfl ok_X12_close rfl rfl rfl rfl dX12_groundThen_60 (fun w1 hp => ?_)
        obtain rfl := hp
        refine x_iload_n C 0 rfl rfl dX12_groundThen_63 ?_
        exact hret _ _ _ _ dX12_groundThen_64 rfl ⟨(by have hL : (Lc mh mn (Ct.dy (Ct.days (Lc mh mn mdy mkd mfg mag mpo mwy) (m).toNat)) mkd mfg mag (Ct.po (Ct.days (Lc mh mn mdy mkd mfg mag mpo mwy) (m).toNat)) (Ct.wy (Ct.days (Lc mh mn mdy mkd mfg mag mpo mwy) (m).toNat))) = Ct.days (Lc mh mn mdy mkd mfg mag mpo mwy) (m).toNat := (Ct.days_same (Lc mh mn mdy mkd mfg mag mpo mwy) (m).toNat).symm; unfold q_then; rw [if_pos (show (-1 ≤ c ∧ c ≤ 14) ∧ 0 ≤ m ∧ m ≤ 60 by omega), if_pos (show 0 ≤ c by omega), hL]), Wk.mk⟩
      · refine x_aload_n C 0 rfl rfl dX12_groundThen_46 ?_
        refine x_V_I C (As := []) (rest := []) 0 0 rfl rfl gX12_groundThen_X12_allWater rfl (c_X12_allWater0 _ _ a mh mn mkd mfg mag (Ct.po (Ct.days (Lc mh mn mdy mkd mfg mag mpo mwy) (m).toNat)) (Ct.wy (Ct.days (Lc mh mn mdy mkd mfg mag mpo mwy) (m).toNat)) (Ct.dy (Ct.days (Lc mh mn mdy mkd mfg mag mpo mwy) (m).toNat)) mhw mkk mkf mrs mrm mrw 0 Gb72 mwa mre mpl mib msn mpn mlo mtl (pck mh mn mdy mkd mfg mag mpo mwy) mim mhi 47 1 (.ref (a 18)) mun msd mbe (WFm.pw hM (Ct.days_wf (WFm.L hM mdy) (m).toNat).po (Ct.days_wf (WFm.L hM mdy) (m).toNat).wy)) rfl ok_X12_allWater rfl rfl rfl rfl dX12_groundThen_47 (fun r w1 hp => ?_)
        obtain ⟨rfl, rfl⟩ := hp
        show Wx X 0 0 (WM X.γ a mh mn mkd mfg mag (Ct.po (Ct.days (Lc mh mn mdy mkd mfg mag mpo mwy) (m).toNat)) (Ct.wy (Ct.days (Lc mh mn mdy mkd mfg mag mpo mwy) (m).toNat)) (Ct.dy (Ct.days (Lc mh mn mdy mkd mfg mag mpo mwy) (m).toNat)) mhw mkk mkf mrs mrm mrw 0 0 (Ct.g (Lc mh mn (Ct.dy (Ct.days (Lc mh mn mdy mkd mfg mag mpo mwy) (m).toNat)) mkd mfg mag (Ct.po (Ct.days (Lc mh mn mdy mkd mfg mag mpo mwy) (m).toNat)) (Ct.wy (Ct.days (Lc mh mn mdy mkd mfg mag mpo mwy) (m).toNat)))) (Ct.w (Lc mh mn (Ct.dy (Ct.days (Lc mh mn mdy mkd mfg mag mpo mwy) (m).toNat)) mkd mfg mag (Ct.po (Ct.days (Lc mh mn mdy mkd mfg mag mpo mwy) (m).toNat)) (Ct.wy (Ct.days (Lc mh mn mdy mkd mfg mag mpo mwy) (m).toNat)))) mre mpl mib msn mpn mlo mtl (pck mh mn mdy mkd mfg mag mpo mwy) mim mhi 47 1 (.ref (a 18)) mun msd mbe) 50 [(0, .ref (a 0)), (1, .int (iN (c))), (2, .int (iN (m)))] [.int (iN (Ct.allW (Lc mh mn (Ct.dy (Ct.days (Lc mh mn mdy mkd mfg mag mpo mwy) (m).toNat)) mkd mfg mag (Ct.po (Ct.days (Lc mh mn mdy mkd mfg mag mpo mwy) (m).toNat)) (Ct.wy (Ct.days (Lc mh mn mdy mkd mfg mag mpo mwy) (m).toNat)))))]
        have b74 := WFc.allW (WFm.L (WFm.pw hM (Ct.days_wf (WFm.L hM mdy) (m).toNat).po (Ct.days_wf (WFm.L hM mdy) (m).toNat).wy) (Ct.dy (Ct.days (Lc mh mn mdy mkd mfg mag mpo mwy) (m).toNat)))
        refine x_goto C 58 (by decide) dX12_groundThen_50 ?_
        refine x_istore_n C [(3, .int (iN (Ct.allW (Lc mh mn (Ct.dy (Ct.days (Lc mh mn mdy mkd mfg mag mpo mwy) (m).toNat)) mkd mfg mag (Ct.po (Ct.days (Lc mh mn mdy mkd mfg mag mpo mwy) (m).toNat)) (Ct.wy (Ct.days (Lc mh mn mdy mkd mfg mag mpo mwy) (m).toNat)))))), (0, .ref (a 0)), (1, .int (iN (c))), (2, .int (iN (m)))] rfl (by decide) rfl dX12_groundThen_58 ?_
        refine x_aload_n C 1 rfl rfl dX12_groundThen_59 ?_
        refine x_V_V C (As := []) (rest := []) 0 0 rfl rfl gX12_groundThen_X12_close rfl (c_X12_close _ _ a mh mn mkd mfg mag (Ct.po (Ct.days (Lc mh mn mdy mkd mfg mag mpo mwy) (m).toNat)) (Ct.wy (Ct.days (Lc mh mn mdy mkd mfg mag mpo mwy) (m).toNat)) (Ct.dy (Ct.days (Lc mh mn mdy mkd mfg mag mpo mwy) (m).toNat)) mhw mkk mkf mrs mrm mrw 0 0 (Ct.g (Lc mh mn (Ct.dy (Ct.days (Lc mh mn mdy mkd mfg mag mpo mwy) (m).toNat)) mkd mfg mag (Ct.po (Ct.days (Lc mh mn mdy mkd mfg mag mpo mwy) (m).toNat)) (Ct.wy (Ct.days (Lc mh mn mdy mkd mfg mag mpo mwy) (m).toNat)))) (Ct.w (Lc mh mn (Ct.dy (Ct.days (Lc mh mn mdy mkd mfg mag mpo mwy) (m).toNat)) mkd mfg mag (Ct.po (Ct.days (Lc mh mn mdy mkd mfg mag mpo mwy) (m).toNat)) (Ct.wy (Ct.days (Lc mh mn mdy mkd mfg mag mpo mwy) (m).toNat)))) mre mpl mib msn mpn mlo mtl mim mhi 47 1 (.ref (a 18)) mun msd mbe mh mn mdy mkd mfg mag mpo mwy) rfl ok_X12_close rfl rfl rfl rfl dX12_groundThen_60 (fun w1 hp => ?_)
        obtain rfl := hp
        refine x_iload_n C 0 rfl rfl dX12_groundThen_63 ?_
        exact hret _ _ _ _ dX12_groundThen_64 rfl ⟨(by have hL : (Lc mh mn (Ct.dy (Ct.days (Lc mh mn mdy mkd mfg mag mpo mwy) (m).toNat)) mkd mfg mag (Ct.po (Ct.days (Lc mh mn mdy mkd mfg mag mpo mwy) (m).toNat)) (Ct.wy (Ct.days (Lc mh mn mdy mkd mfg mag mpo mwy) (m).toNat))) = Ct.days (Lc mh mn mdy mkd mfg mag mpo mwy) (m).toNat := (Ct.days_same (Lc mh mn mdy mkd mfg mag mpo mwy) (m).toNat).symm; unfold q_then; rw [if_pos (show (-1 ≤ c ∧ c ≤ 14) ∧ 0 ≤ m ∧ m ≤ 60 by omega), if_neg (show ¬ 0 ≤ c by omega), hL]), Wk.mk⟩
    · refine x_iconst (v := 0) C dX12_groundThen_31 ?_
      exact hret _ _ _ _ dX12_groundThen_32 rfl ⟨(by unfold q_then; rw [if_neg (show ¬ ((-1 ≤ c ∧ c ≤ 14) ∧ 0 ≤ m ∧ m ≤ 60) by omega)]), Wk.mk⟩
theorem in_X12_arrives_X12 : ∀ w ∈ u_ws RX12 TX12 34, w ∈ wsX12_arrives := by decide +kernel
theorem ok_X12_arrives : okY yX12_arrives 2 := by decide +kernel
def rmX12_arrives : Room := { frames := 6, cells := 0, slots := 0, locals := 133 }
set_option maxRecDepth 100000 in
set_option maxHeartbeats 400000 in
theorem c_X12_arrives (l : Launch) (γ : GX) (a : Nat → Nat) (mh : Int → Int) (mn : Int) (mkd : Int → Int) (mfg : Int → Int) (mag : Int → Int) (mpo : Int → Int) (mwy : Int → Int) (mdy : Int) (mhw : Int → Int) (mkk : Int → Int) (mkf : Int → Int) (mrs : Int → Int) (mrm : Int → Int) (mrw : Int → Int) (mth : Int) (mgr : Int → Int) (mwa : Int → Int) (mre : Int) (mpl : Int) (mib : Int) (msn : Int) (mpn : Int → Int) (mlo : Int → Int) (mtl : Int → Int) (mke : Int → Int) (mim : Int → Int) (mhi : Int) (mp0 : Int) (mtk : Int) (mki : Value) (mun : Int → Int) (msd : Int) (mbe : Int → Int) (hM : WFm mn mh mkd mfg mag mpo mwy mhw mkk mkf mrs mrm mrw) (i : Int) (c : Int) (h0_ : -2147483648 ≤ i ∧ i < 2147483648) (h1_ : -2147483648 ≤ c ∧ c < 2147483648) : MI l γ yX12_arrives wsX12_arrives rmX12_arrives [.ref (a 0), .int (iN (i)), .int (iN (c))] (WM γ a mh mn mkd mfg mag mpo mwy mdy mhw mkk mkf mrs mrm mrw mth 0 mgr mwa mre mpl mib msn mpn mlo mtl mke mim mhi mp0 mtk mki mun msd mbe) (fun r_ w_ => r_ = q_arrives (Lc mh mn mdy mkd mfg mag mpo mwy) i c ∧ Wk γ a mh mn mkd mfg mag mpo mwy mdy mhw mkk mkf mrs mrm mrw 0 mim mhi w_) 0 0 := by
  refine MI.of (cc := cX12_arrives) (maxL := 5) (rt := .int) RX12 rfl (by decide +kernel) rfl (Nat.le_of_ble_eq_true rfl) ?_
  intro X C hγ hl hnm hret
  subst hγ
  have hMn := WFm.n hM
  show Wx X 0 0 (WM X.γ a mh mn mkd mfg mag mpo mwy mdy mhw mkk mkf mrs mrm mrw mth 0 mgr mwa mre mpl mib msn mpn mlo mtl mke mim mhi mp0 mtk mki mun msd mbe) 0 [(0, .ref (a 0)), (1, .int (iN (i))), (2, .int (iN (c)))] []
  refine x_aload_n C 0 rfl rfl dX12_arrives_0 ?_
  refine x_iconst (v := 0) C dX12_arrives_1 ?_
  refine x_put C in_X12_arrives_X12 tyX12 tyX12_ok nmX12 0 rfl rfl 14 (by decide) (List.mem_of_getElem? (i := 1) rfl) rfl rfl rfl rfl rfl (Nat.le_of_ble_eq_true rfl) (WM X.γ a mh mn mkd mfg mag mpo mwy mdy mhw mkk mkf mrs mrm mrw 0 0 mgr mwa mre mpl mib msn mpn mlo mtl mke mim mhi mp0 mtk mki mun msd mbe) rfl dX12_arrives_2 ?_
  refine x_aload_n C 0 rfl rfl dX12_arrives_5 ?_
  refine x_iload_n C 1 rfl rfl dX12_arrives_6 ?_
  refine x_V_I C (As := [.int (iN (i))]) (rest := []) 1 0 rfl rfl gX12_arrives_X12_isOne rfl (c_X12_isOne _ _ a mh mn mkd mfg mag mpo mwy mdy mhw mkk mkf mrs mrm mrw 0 0 mgr mwa mre mpl mib msn mpn mlo mtl mke mim mhi mp0 mtk mki mun msd mbe hM (i) (by omega)) rfl ok_X12_isOne rfl rfl rfl rfl dX12_arrives_7 (fun r w1 hp => ?_)
  obtain ⟨rfl, rfl⟩ := hp
  refine x_ifeq_bz C 20 (by decide) dX12_arrives_10 (fun c_10 => ?_) (fun c_10 => ?_)
  · refine x_iconst (v := 0) C dX12_arrives_20 ?_
    exact hret _ _ _ _ dX12_arrives_21 rfl ⟨(by unfold q_arrives; rw [if_neg (show ¬ (q_one (Lc mh mn mdy mkd mfg mag mpo mwy) i ∧ q_cell c) from (show ¬ ((0 ≤ i ∧ i ≤ mn - 1) ∧ 0 ≤ c ∧ c ≤ 14) by omega))]), Wk.mk⟩
  · refine x_iload_n C 2 rfl rfl dX12_arrives_13 ?_
    refine x_S_I C (As := [.int (iN (c))]) (rest := []) 1 gX12_arrives_X12_isCell (c_X12_isCell _ _ (WM X.γ a mh mn mkd mfg mag mpo mwy mdy mhw mkk mkf mrs mrm mrw 0 0 mgr mwa mre mpl mib msn mpn mlo mtl mke mim mhi mp0 mtk mki mun msd mbe) (c) (by omega)) rfl ok_X12_isCell rfl rfl rfl rfl dX12_arrives_14 (fun r w1 hp => ?_)
    obtain ⟨rfl, rfl⟩ := hp
    refine x_ifne_bz C 22 (by decide) dX12_arrives_17 (fun c_17 => ?_) (fun c_17 => ?_)
    · refine x_bipush C (-4) (by decide) dX12_arrives_22 ?_
      refine x_istore_n C [(3, .int (iN (-4))), (0, .ref (a 0)), (1, .int (iN (i))), (2, .int (iN (c)))] rfl (by decide) rfl dX12_arrives_24 ?_
      refine x_aload_n C 1 rfl rfl dX12_arrives_25 ?_
      refine x_V_V C (As := []) (rest := []) 0 0 rfl rfl gX12_arrives_X12_open rfl (c_X12_open _ _ a mh mn mkd mfg mag mpo mwy mdy mhw mkk mkf mrs mrm mrw 0 0 mgr mwa mre mpl mib msn mpn mlo mtl mke mim mhi mp0 mtk mki mun msd mbe) rfl ok_X12_open rfl rfl rfl rfl dX12_arrives_26 (fun w1 hp => ?_)
      obtain rfl := hp
      refine x_iconst (v := 0) C dX12_arrives_29 ?_
      refine x_istore C [(4, .int (iN (0))), (3, .int (iN (-4))), (0, .ref (a 0)), (1, .int (iN (i))), (2, .int (iN (c)))] (by decide) rfl dX12_arrives_30 ?_
      have LP32 : ∀ (f : Nat) (k : Nat) (G : Int → Int) (v4_32 : Int) (v3_32 : Int), (61 - k < f) → (k ≤ 61) → (((k : Int)) = v4_32) → (v3_32 = (fstz (fun t => Ct.po (Ct.days (Lc mh mn mdy mkd mfg mag mpo mwy) t) i - c) k)) → Wx X 0 0 (WM X.γ a mh mn mkd mfg mag (Ct.po (Ct.days (Lc mh mn mdy mkd mfg mag mpo mwy) k)) (Ct.wy (Ct.days (Lc mh mn mdy mkd mfg mag mpo mwy) k)) (Ct.dy (Ct.days (Lc mh mn mdy mkd mfg mag mpo mwy) k)) mhw mkk mkf mrs mrm mrw 0 0 G mwa mre mpl mib msn mpn mlo mtl (pck mh mn mdy mkd mfg mag mpo mwy) mim mhi 47 1 (.ref (a 18)) mun msd mbe) 32 [(4, .int (iN (v4_32))), (3, .int (iN (v3_32))), (0, .ref (a 0)), (1, .int (iN (i))), (2, .int (iN (c)))] [] := by
        intro f
        induction f with
        | zero => intro k G v4_32 v3_32 hf; exact absurd hf (Nat.not_lt_zero _)
        | succ f ih32 =>
          intro k G v4_32 v3_32 hf hk e4_32 e3_32
          subst e4_32
          have bf := fstz_b (fun t => Ct.po (Ct.days (Lc mh mn mdy mkd mfg mag mpo mwy) t) i - c) k
          refine x_iload C 0 rfl dX12_arrives_32 ?_
          refine x_bipush C (60) (by decide) dX12_arrives_34 ?_
          refine x_icmp_gt C 72 (by decide) (by omega) dX12_arrives_36 (fun c_36 => ?_) (fun c_36 => ?_)
          · refine x_aload_n C 2 rfl rfl dX12_arrives_72 ?_
            refine x_V_V C (As := []) (rest := []) 0 0 rfl rfl gX12_arrives_X12_close rfl (c_X12_close _ _ a mh mn mkd mfg mag (Ct.po (Ct.days (Lc mh mn mdy mkd mfg mag mpo mwy) k)) (Ct.wy (Ct.days (Lc mh mn mdy mkd mfg mag mpo mwy) k)) (Ct.dy (Ct.days (Lc mh mn mdy mkd mfg mag mpo mwy) k)) mhw mkk mkf mrs mrm mrw 0 0 G mwa mre mpl mib msn mpn mlo mtl mim mhi 47 1 (.ref (a 18)) mun msd mbe mh mn mdy mkd mfg mag mpo mwy) rfl ok_X12_close rfl rfl rfl rfl dX12_arrives_73 (fun w1 hp => ?_)
            obtain rfl := hp
            refine x_iload_n C 1 rfl rfl dX12_arrives_76 ?_
            exact hret _ _ _ _ dX12_arrives_77 rfl ⟨(by unfold q_arrives; rw [if_pos (show q_one (Lc mh mn mdy mkd mfg mag mpo mwy) i ∧ q_cell c from (show (0 ≤ i ∧ i ≤ mn - 1) ∧ 0 ≤ c ∧ c ≤ 14 by omega)), fstz_end (fun t => Ct.po (Ct.days (Lc mh mn mdy mkd mfg mag mpo mwy) t) i - c) (k := k) (by omega) (by rw [← e3_32]; omega), ← e3_32]), Wk.mk⟩
          · refine x_iload_n C 1 rfl rfl dX12_arrives_39 ?_
            refine x_if_ge C 72 (by decide) (by omega) dX12_arrives_40 (fun c_40 => ?_) (fun c_40 => ?_)
            · refine x_aload_n C 2 rfl rfl dX12_arrives_72 ?_
              refine x_V_V C (As := []) (rest := []) 0 0 rfl rfl gX12_arrives_X12_close rfl (c_X12_close _ _ a mh mn mkd mfg mag (Ct.po (Ct.days (Lc mh mn mdy mkd mfg mag mpo mwy) k)) (Ct.wy (Ct.days (Lc mh mn mdy mkd mfg mag mpo mwy) k)) (Ct.dy (Ct.days (Lc mh mn mdy mkd mfg mag mpo mwy) k)) mhw mkk mkf mrs mrm mrw 0 0 G mwa mre mpl mib msn mpn mlo mtl mim mhi 47 1 (.ref (a 18)) mun msd mbe mh mn mdy mkd mfg mag mpo mwy) rfl ok_X12_close rfl rfl rfl rfl dX12_arrives_73 (fun w1 hp => ?_)
              obtain rfl := hp
              refine x_iload_n C 1 rfl rfl dX12_arrives_76 ?_
              exact hret _ _ _ _ dX12_arrives_77 rfl ⟨(by unfold q_arrives; rw [if_pos (show q_one (Lc mh mn mdy mkd mfg mag mpo mwy) i ∧ q_cell c from (show (0 ≤ i ∧ i ≤ mn - 1) ∧ 0 ≤ c ∧ c ≤ 14 by omega)), fstz_end (fun t => Ct.po (Ct.days (Lc mh mn mdy mkd mfg mag mpo mwy) t) i - c) (k := k) (by omega) (by rw [← e3_32]; omega), ← e3_32]), Wk.mk⟩
            · refine x_aload_n C 2 rfl rfl dX12_arrives_43 ?_
              refine x_get C in_X12_arrives_X12 0 rfl rfl 5 (by decide) (List.mem_of_getElem? (i := 2) rfl) rfl (v := .ref (a 5)) rfl dX12_arrives_44 ?_
              refine x_iload_n C 3 rfl rfl dX12_arrives_47 ?_
              refine x_iaload C (f := (Ct.po (Ct.days (Lc mh mn mdy mkd mfg mag mpo mwy) k))) 5 rfl (by omega) rfl dX12_arrives_48 ?_
              have b75 := (Ct.days_wf (WFm.L hM mdy) k).po (i)
              refine x_iload_n C 4 rfl rfl dX12_arrives_49 ?_
              have LP60 : ∀ (s0_60 : Int), (s0_60 = (if Ct.po (Ct.days (Lc mh mn mdy mkd mfg mag mpo mwy) k) i = c then (k : Int) else -4)) → Wx X 0 0 (WM X.γ a mh mn mkd mfg mag (Ct.po (Ct.days (Lc mh mn mdy mkd mfg mag mpo mwy) k)) (Ct.wy (Ct.days (Lc mh mn mdy mkd mfg mag mpo mwy) k)) (Ct.dy (Ct.days (Lc mh mn mdy mkd mfg mag mpo mwy) k)) mhw mkk mkf mrs mrm mrw 0 0 G mwa mre mpl mib msn mpn mlo mtl (pck mh mn mdy mkd mfg mag mpo mwy) mim mhi 47 1 (.ref (a 18)) mun msd mbe) 60 [(4, .int (iN ((k : Int)))), (3, .int (iN (v3_32))), (0, .ref (a 0)), (1, .int (iN (i))), (2, .int (iN (c)))] [.int (iN (s0_60))] := by
                intro s0_60 es0_60
                refine x_istore_n C [(3, .int (iN (s0_60))), (4, .int (iN ((k : Int)))), (0, .ref (a 0)), (1, .int (iN (i))), (2, .int (iN (c)))] rfl (by decide) rfl dX12_arrives_60 ?_
                refine x_aload_n C 2 rfl rfl dX12_arrives_61 ?_
                refine x_iconst (v := 0) C dX12_arrives_62 ?_
                refine x_V_V C (As := [.int (iN (0))]) (rest := []) 1 0 rfl rfl gX12_arrives_X12_dayBy rfl (c_X12_dayBy_0 _ _ a mh mn mkd mfg mag (Ct.po (Ct.days (Lc mh mn mdy mkd mfg mag mpo mwy) k)) (Ct.wy (Ct.days (Lc mh mn mdy mkd mfg mag mpo mwy) k)) (Ct.dy (Ct.days (Lc mh mn mdy mkd mfg mag mpo mwy) k)) mhw mkk mkf mrs mrm mrw 0 G mwa mre mpl mib msn mpn mlo mtl (pck mh mn mdy mkd mfg mag mpo mwy) mim mhi 47 1 (.ref (a 18)) mun msd mbe (WFm.pw hM (Ct.days_wf (WFm.L hM mdy) k).po (Ct.days_wf (WFm.L hM mdy) k).wy)) rfl ok_X12_dayBy rfl rfl rfl rfl dX12_arrives_63 (fun w1 hp => ?_)
                obtain ⟨Gb76, rfl⟩ := hp
                refine x_iinc C 1 [(4, .int (iN ((k : Int) + 1))), (3, .int (iN (s0_60))), (0, .ref (a 0)), (1, .int (iN (i))), (2, .int (iN (c)))] rfl rfl (by decide) rfl dX12_arrives_66 ?_
                refine x_goto C 32 (by decide) dX12_arrives_69 ?_
                have hL : (Lc mh mn (Ct.dy (Ct.days (Lc mh mn mdy mkd mfg mag mpo mwy) k)) mkd mfg mag (Ct.po (Ct.days (Lc mh mn mdy mkd mfg mag mpo mwy) k)) (Ct.wy (Ct.days (Lc mh mn mdy mkd mfg mag mpo mwy) k))) = Ct.days (Lc mh mn mdy mkd mfg mag mpo mwy) k := (Ct.days_same (Lc mh mn mdy mkd mfg mag mpo mwy) k).symm
                refine Wx.eqW (ws' := (WM X.γ a mh mn mkd mfg mag (Ct.po (Ct.days (Lc mh mn mdy mkd mfg mag mpo mwy) (k + 1))) (Ct.wy (Ct.days (Lc mh mn mdy mkd mfg mag mpo mwy) (k + 1))) (Ct.dy (Ct.days (Lc mh mn mdy mkd mfg mag mpo mwy) (k + 1))) mhw mkk mkf mrs mrm mrw 0 0 Gb76 mwa mre mpl mib msn mpn mlo mtl (pck mh mn mdy mkd mfg mag mpo mwy) mim mhi 47 1 (.ref (a 18)) mun msd mbe)) (by rw [hL]; obtain ⟨e1, e2, e3⟩ := Ct.days_s (Lc mh mn mdy mkd mfg mag mpo mwy) k; rw [e1, e2, e3]; try rfl) ?_
                exact ih32 (k + 1) (Gb76) _ _ (by omega) (by omega) (by omega) (by simp only [fstz]; rw [← e3_32]; omega)
              refine x_icmp_ne C 58 (by decide) (by omega) dX12_arrives_50 (fun c_50 => ?_) (fun c_50 => ?_)
              · refine x_bipush C (-4) (by decide) dX12_arrives_58 ?_
                exact LP60 _ (by omega)
              · refine x_iload C 0 rfl dX12_arrives_53 ?_
                refine x_goto C 60 (by decide) dX12_arrives_55 ?_
                exact LP60 _ (by omega)
      exact LP32 ((61 - (0)) + 1) (0) (mgr) _ _ (by omega) (by omega) (by omega) (rfl)
    · refine x_iconst (v := 0) C dX12_arrives_20 ?_
      exact hret _ _ _ _ dX12_arrives_21 rfl ⟨(by unfold q_arrives; rw [if_neg (show ¬ (q_one (Lc mh mn mdy mkd mfg mag mpo mwy) i ∧ q_cell c) from (show ¬ ((0 ≤ i ∧ i ≤ mn - 1) ∧ 0 ≤ c ∧ c ≤ 14) by omega))]), Wk.mk⟩
theorem in_X12_stuck_X12 : ∀ w ∈ u_ws RX12 TX12 34, w ∈ wsX12_stuck := by decide +kernel
theorem ok_X12_stuck : okY yX12_stuck 1 := by decide +kernel
def rmX12_stuck : Room := { frames := 6, cells := 0, slots := 0, locals := 133 }
set_option maxRecDepth 100000 in
set_option maxHeartbeats 400000 in
theorem c_X12_stuck (l : Launch) (γ : GX) (a : Nat → Nat) (mh : Int → Int) (mn : Int) (mkd : Int → Int) (mfg : Int → Int) (mag : Int → Int) (mpo : Int → Int) (mwy : Int → Int) (mdy : Int) (mhw : Int → Int) (mkk : Int → Int) (mkf : Int → Int) (mrs : Int → Int) (mrm : Int → Int) (mrw : Int → Int) (mth : Int) (mgr : Int → Int) (mwa : Int → Int) (mre : Int) (mpl : Int) (mib : Int) (msn : Int) (mpn : Int → Int) (mlo : Int → Int) (mtl : Int → Int) (mke : Int → Int) (mim : Int → Int) (mhi : Int) (mp0 : Int) (mtk : Int) (mki : Value) (mun : Int → Int) (msd : Int) (mbe : Int → Int) (hM : WFm mn mh mkd mfg mag mpo mwy mhw mkk mkf mrs mrm mrw) (i : Int) (h0_ : -2147483648 ≤ i ∧ i < 2147483648) : MI l γ yX12_stuck wsX12_stuck rmX12_stuck [.ref (a 0), .int (iN (i))] (WM γ a mh mn mkd mfg mag mpo mwy mdy mhw mkk mkf mrs mrm mrw mth 0 mgr mwa mre mpl mib msn mpn mlo mtl mke mim mhi mp0 mtk mki mun msd mbe) (fun r_ w_ => r_ = q_stuck (Lc mh mn mdy mkd mfg mag mpo mwy) i ∧ Wk γ a mh mn mkd mfg mag mpo mwy mdy mhw mkk mkf mrs mrm mrw 0 mim mhi w_) 0 0 := by
  refine MI.of (cc := cX12_stuck) (maxL := 5) (rt := .int) RX12 rfl (by decide +kernel) rfl (Nat.le_of_ble_eq_true rfl) ?_
  intro X C hγ hl hnm hret
  subst hγ
  have hMn := WFm.n hM
  show Wx X 0 0 (WM X.γ a mh mn mkd mfg mag mpo mwy mdy mhw mkk mkf mrs mrm mrw mth 0 mgr mwa mre mpl mib msn mpn mlo mtl mke mim mhi mp0 mtk mki mun msd mbe) 0 [(0, .ref (a 0)), (1, .int (iN (i)))] []
  refine x_aload_n C 0 rfl rfl dX12_stuck_0 ?_
  refine x_iconst (v := 0) C dX12_stuck_1 ?_
  refine x_put C in_X12_stuck_X12 tyX12 tyX12_ok nmX12 0 rfl rfl 14 (by decide) (List.mem_of_getElem? (i := 1) rfl) rfl rfl rfl rfl rfl (Nat.le_of_ble_eq_true rfl) (WM X.γ a mh mn mkd mfg mag mpo mwy mdy mhw mkk mkf mrs mrm mrw 0 0 mgr mwa mre mpl mib msn mpn mlo mtl mke mim mhi mp0 mtk mki mun msd mbe) rfl dX12_stuck_2 ?_
  refine x_aload_n C 0 rfl rfl dX12_stuck_5 ?_
  refine x_iload_n C 1 rfl rfl dX12_stuck_6 ?_
  refine x_V_I C (As := [.int (iN (i))]) (rest := []) 1 0 rfl rfl gX12_stuck_X12_isOne rfl (c_X12_isOne _ _ a mh mn mkd mfg mag mpo mwy mdy mhw mkk mkf mrs mrm mrw 0 0 mgr mwa mre mpl mib msn mpn mlo mtl mke mim mhi mp0 mtk mki mun msd mbe hM (i) (by omega)) rfl ok_X12_isOne rfl rfl rfl rfl dX12_stuck_7 (fun r w1 hp => ?_)
  obtain ⟨rfl, rfl⟩ := hp
  refine x_ifne_bz C 15 (by decide) dX12_stuck_10 (fun c_10 => ?_) (fun c_10 => ?_)
  · refine x_bipush C (-4) (by decide) dX12_stuck_15 ?_
    refine x_istore_n C [(2, .int (iN (-4))), (0, .ref (a 0)), (1, .int (iN (i)))] rfl (by decide) rfl dX12_stuck_17 ?_
    refine x_aload_n C 1 rfl rfl dX12_stuck_18 ?_
    refine x_V_V C (As := []) (rest := []) 0 0 rfl rfl gX12_stuck_X12_open rfl (c_X12_open _ _ a mh mn mkd mfg mag mpo mwy mdy mhw mkk mkf mrs mrm mrw 0 0 mgr mwa mre mpl mib msn mpn mlo mtl mke mim mhi mp0 mtk mki mun msd mbe) rfl ok_X12_open rfl rfl rfl rfl dX12_stuck_19 (fun w1 hp => ?_)
    obtain rfl := hp
    refine x_iconst (v := 0) C dX12_stuck_22 ?_
    refine x_istore_n C [(3, .int (iN (0))), (2, .int (iN (-4))), (0, .ref (a 0)), (1, .int (iN (i)))] rfl (by decide) rfl dX12_stuck_23 ?_
    have LP24 : ∀ (f : Nat) (k : Nat) (G : Int → Int) (v3_24 : Int) (v2_24 : Int), (61 - k < f) → (k ≤ 61) → (((k : Int)) = v3_24) → (v2_24 = (fstz (fun t => Ct.po (Ct.days (Lc mh mn mdy mkd mfg mag mpo mwy) (t + 1)) i - Ct.po (Ct.days (Lc mh mn mdy mkd mfg mag mpo mwy) t) i) k)) → Wx X 0 0 (WM X.γ a mh mn mkd mfg mag (Ct.po (Ct.days (Lc mh mn mdy mkd mfg mag mpo mwy) k)) (Ct.wy (Ct.days (Lc mh mn mdy mkd mfg mag mpo mwy) k)) (Ct.dy (Ct.days (Lc mh mn mdy mkd mfg mag mpo mwy) k)) mhw mkk mkf mrs mrm mrw 0 0 G mwa mre mpl mib msn mpn mlo mtl (pck mh mn mdy mkd mfg mag mpo mwy) mim mhi 47 1 (.ref (a 18)) mun msd mbe) 24 [(3, .int (iN (v3_24))), (2, .int (iN (v2_24))), (0, .ref (a 0)), (1, .int (iN (i)))] [] := by
      intro f
      induction f with
      | zero => intro k G v3_24 v2_24 hf; exact absurd hf (Nat.not_lt_zero _)
      | succ f ih24 =>
        intro k G v3_24 v2_24 hf hk e3_24 e2_24
        subst e3_24
        have bf := fstz_b (fun t => Ct.po (Ct.days (Lc mh mn mdy mkd mfg mag mpo mwy) (t + 1)) i - Ct.po (Ct.days (Lc mh mn mdy mkd mfg mag mpo mwy) t) i) k
        refine x_iload_n C 0 rfl rfl dX12_stuck_24 ?_
        refine x_bipush C (60) (by decide) dX12_stuck_25 ?_
        refine x_icmp_gt C 71 (by decide) (by omega) dX12_stuck_27 (fun c_27 => ?_) (fun c_27 => ?_)
        · refine x_aload_n C 2 rfl rfl dX12_stuck_71 ?_
          refine x_V_V C (As := []) (rest := []) 0 0 rfl rfl gX12_stuck_X12_close rfl (c_X12_close _ _ a mh mn mkd mfg mag (Ct.po (Ct.days (Lc mh mn mdy mkd mfg mag mpo mwy) k)) (Ct.wy (Ct.days (Lc mh mn mdy mkd mfg mag mpo mwy) k)) (Ct.dy (Ct.days (Lc mh mn mdy mkd mfg mag mpo mwy) k)) mhw mkk mkf mrs mrm mrw 0 0 G mwa mre mpl mib msn mpn mlo mtl mim mhi 47 1 (.ref (a 18)) mun msd mbe mh mn mdy mkd mfg mag mpo mwy) rfl ok_X12_close rfl rfl rfl rfl dX12_stuck_72 (fun w1 hp => ?_)
          obtain rfl := hp
          refine x_iload_n C 1 rfl rfl dX12_stuck_75 ?_
          exact hret _ _ _ _ dX12_stuck_76 rfl ⟨(by unfold q_stuck; rw [if_pos (show q_one (Lc mh mn mdy mkd mfg mag mpo mwy) i from (show 0 ≤ i ∧ i ≤ mn - 1 by omega)), fstz_end (fun t => Ct.po (Ct.days (Lc mh mn mdy mkd mfg mag mpo mwy) (t + 1)) i - Ct.po (Ct.days (Lc mh mn mdy mkd mfg mag mpo mwy) t) i) (k := k) (by omega) (by rw [← e2_24]; omega), ← e2_24]), Wk.mk⟩
        · refine x_iload_n C 1 rfl rfl dX12_stuck_30 ?_
          refine x_if_ge C 71 (by decide) (by omega) dX12_stuck_31 (fun c_31 => ?_) (fun c_31 => ?_)
          · refine x_aload_n C 2 rfl rfl dX12_stuck_71 ?_
            refine x_V_V C (As := []) (rest := []) 0 0 rfl rfl gX12_stuck_X12_close rfl (c_X12_close _ _ a mh mn mkd mfg mag (Ct.po (Ct.days (Lc mh mn mdy mkd mfg mag mpo mwy) k)) (Ct.wy (Ct.days (Lc mh mn mdy mkd mfg mag mpo mwy) k)) (Ct.dy (Ct.days (Lc mh mn mdy mkd mfg mag mpo mwy) k)) mhw mkk mkf mrs mrm mrw 0 0 G mwa mre mpl mib msn mpn mlo mtl mim mhi 47 1 (.ref (a 18)) mun msd mbe mh mn mdy mkd mfg mag mpo mwy) rfl ok_X12_close rfl rfl rfl rfl dX12_stuck_72 (fun w1 hp => ?_)
            obtain rfl := hp
            refine x_iload_n C 1 rfl rfl dX12_stuck_75 ?_
            exact hret _ _ _ _ dX12_stuck_76 rfl ⟨(by unfold q_stuck; rw [if_pos (show q_one (Lc mh mn mdy mkd mfg mag mpo mwy) i from (show 0 ≤ i ∧ i ≤ mn - 1 by omega)), fstz_end (fun t => Ct.po (Ct.days (Lc mh mn mdy mkd mfg mag mpo mwy) (t + 1)) i - Ct.po (Ct.days (Lc mh mn mdy mkd mfg mag mpo mwy) t) i) (k := k) (by omega) (by rw [← e2_24]; omega), ← e2_24]), Wk.mk⟩
          · refine x_aload_n C 2 rfl rfl dX12_stuck_34 ?_
            refine x_get C in_X12_stuck_X12 0 rfl rfl 5 (by decide) (List.mem_of_getElem? (i := 2) rfl) rfl (v := .ref (a 5)) rfl dX12_stuck_35 ?_
            refine x_iload_n C 3 rfl rfl dX12_stuck_38 ?_
            refine x_iaload C (f := (Ct.po (Ct.days (Lc mh mn mdy mkd mfg mag mpo mwy) k))) 5 rfl (by omega) rfl dX12_stuck_39 ?_
            have b77 := (Ct.days_wf (WFm.L hM mdy) k).po (i)
            refine x_istore C [(4, .int (iN ((Ct.po (Ct.days (Lc mh mn mdy mkd mfg mag mpo mwy) k)) i))), (3, .int (iN ((k : Int)))), (2, .int (iN (v2_24))), (0, .ref (a 0)), (1, .int (iN (i)))] (by decide) rfl dX12_stuck_40 ?_
            refine x_aload_n C 3 rfl rfl dX12_stuck_42 ?_
            refine x_iconst (v := 0) C dX12_stuck_43 ?_
            refine x_V_V C (As := [.int (iN (0))]) (rest := []) 1 0 rfl rfl gX12_stuck_X12_dayBy rfl (c_X12_dayBy_0 _ _ a mh mn mkd mfg mag (Ct.po (Ct.days (Lc mh mn mdy mkd mfg mag mpo mwy) k)) (Ct.wy (Ct.days (Lc mh mn mdy mkd mfg mag mpo mwy) k)) (Ct.dy (Ct.days (Lc mh mn mdy mkd mfg mag mpo mwy) k)) mhw mkk mkf mrs mrm mrw 0 G mwa mre mpl mib msn mpn mlo mtl (pck mh mn mdy mkd mfg mag mpo mwy) mim mhi 47 1 (.ref (a 18)) mun msd mbe (WFm.pw hM (Ct.days_wf (WFm.L hM mdy) k).po (Ct.days_wf (WFm.L hM mdy) k).wy)) rfl ok_X12_dayBy rfl rfl rfl rfl dX12_stuck_44 (fun w1 hp => ?_)
            obtain ⟨Gb78, rfl⟩ := hp
            have hL : (Lc mh mn (Ct.dy (Ct.days (Lc mh mn mdy mkd mfg mag mpo mwy) k)) mkd mfg mag (Ct.po (Ct.days (Lc mh mn mdy mkd mfg mag mpo mwy) k)) (Ct.wy (Ct.days (Lc mh mn mdy mkd mfg mag mpo mwy) k))) = Ct.days (Lc mh mn mdy mkd mfg mag mpo mwy) k := (Ct.days_same (Lc mh mn mdy mkd mfg mag mpo mwy) k).symm
            refine Wx.eqW (ws' := (WM X.γ a mh mn mkd mfg mag (Ct.po (Ct.days (Lc mh mn mdy mkd mfg mag mpo mwy) (k + 1))) (Ct.wy (Ct.days (Lc mh mn mdy mkd mfg mag mpo mwy) (k + 1))) (Ct.dy (Ct.days (Lc mh mn mdy mkd mfg mag mpo mwy) (k + 1))) mhw mkk mkf mrs mrm mrw 0 0 Gb78 mwa mre mpl mib msn mpn mlo mtl (pck mh mn mdy mkd mfg mag mpo mwy) mim mhi 47 1 (.ref (a 18)) mun msd mbe)) (by rw [hL]; obtain ⟨e1, e2, e3⟩ := Ct.days_s (Lc mh mn mdy mkd mfg mag mpo mwy) k; rw [e1, e2, e3]; try rfl) ?_
            refine x_aload_n C 3 rfl rfl dX12_stuck_47 ?_
            refine x_get C in_X12_stuck_X12 0 rfl rfl 5 (by decide) (List.mem_of_getElem? (i := 2) rfl) rfl (v := .ref (a 5)) rfl dX12_stuck_48 ?_
            refine x_iload_n C 4 rfl rfl dX12_stuck_51 ?_
            refine x_iaload C (f := (Ct.po (Ct.days (Lc mh mn mdy mkd mfg mag mpo mwy) (k + 1)))) 5 rfl (by omega) rfl dX12_stuck_52 ?_
            have b79 := (Ct.days_wf (WFm.L hM mdy) (k + 1)).po (i)
            refine x_iload C 0 rfl dX12_stuck_53 ?_
            have LP64 : ∀ (s0_64 : Int), (s0_64 = (if Ct.po (Ct.days (Lc mh mn mdy mkd mfg mag mpo mwy) (k + 1)) i = Ct.po (Ct.days (Lc mh mn mdy mkd mfg mag mpo mwy) k) i then (k : Int) else -4)) → Wx X 0 0 (WM X.γ a mh mn mkd mfg mag (Ct.po (Ct.days (Lc mh mn mdy mkd mfg mag mpo mwy) (k + 1))) (Ct.wy (Ct.days (Lc mh mn mdy mkd mfg mag mpo mwy) (k + 1))) (Ct.dy (Ct.days (Lc mh mn mdy mkd mfg mag mpo mwy) (k + 1))) mhw mkk mkf mrs mrm mrw 0 0 Gb78 mwa mre mpl mib msn mpn mlo mtl (pck mh mn mdy mkd mfg mag mpo mwy) mim mhi 47 1 (.ref (a 18)) mun msd mbe) 64 [(4, .int (iN ((Ct.po (Ct.days (Lc mh mn mdy mkd mfg mag mpo mwy) k)) i))), (3, .int (iN ((k : Int)))), (2, .int (iN (v2_24))), (0, .ref (a 0)), (1, .int (iN (i)))] [.int (iN (s0_64))] := by
              intro s0_64 es0_64
              refine x_istore_n C [(2, .int (iN (s0_64))), (4, .int (iN ((Ct.po (Ct.days (Lc mh mn mdy mkd mfg mag mpo mwy) k)) i))), (3, .int (iN ((k : Int)))), (0, .ref (a 0)), (1, .int (iN (i)))] rfl (by decide) rfl dX12_stuck_64 ?_
              refine x_iinc C 2 [(3, .int (iN ((k : Int) + 1))), (2, .int (iN (s0_64))), (4, .int (iN ((Ct.po (Ct.days (Lc mh mn mdy mkd mfg mag mpo mwy) k)) i))), (0, .ref (a 0)), (1, .int (iN (i)))] rfl rfl (by decide) rfl dX12_stuck_65 ?_
              refine x_goto C 24 (by decide) dX12_stuck_68 ?_
              refine Wx.subL [0, 1, 3, 4] rfl ?_
              exact ih24 (k + 1) (Gb78) _ _ (by omega) (by omega) (by omega) (by simp only [fstz]; rw [← e2_24]; omega)
            refine x_icmp_ne C 62 (by decide) (by omega) dX12_stuck_55 (fun c_55 => ?_) (fun c_55 => ?_)
            · refine x_bipush C (-4) (by decide) dX12_stuck_62 ?_
              exact LP64 _ (by omega)
            · refine x_iload_n C 1 rfl rfl dX12_stuck_58 ?_
              refine x_goto C 64 (by decide) dX12_stuck_59 ?_
              exact LP64 _ (by omega)
    exact LP24 ((61 - (0)) + 1) (0) (mgr) _ _ (by omega) (by omega) (by omega) (rfl)
  · refine x_iconst (v := 0) C dX12_stuck_13 ?_
    exact hret _ _ _ _ dX12_stuck_14 rfl ⟨(by unfold q_stuck; rw [if_neg (show ¬ q_one (Lc mh mn mdy mkd mfg mag mpo mwy) i from (show ¬ (0 ≤ i ∧ i ≤ mn - 1) by omega))]), Wk.mk⟩
end HASK
