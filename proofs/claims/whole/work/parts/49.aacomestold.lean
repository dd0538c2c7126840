section HTEXaa
theorem in_X12_comesTold_X12 : ∀ w ∈ u_ws RX12 TX12 34, w ∈ wsX12_comesTold := by decide +kernel
theorem ok_X12_comesTold : okY yX12_comesTold 1 := by decide +kernel
def rmX12_comesTold : Room := { frames := 8, cells := 0, slots := 0, locals := 177 }
set_option maxRecDepth 100000 in
set_option maxHeartbeats 400000 in
theorem c_X12_comesTold (l : Launch) (γ : GX) (a : Nat → Nat) (mh : Int → Int) (mn : Int) (mkd : Int → Int) (mfg : Int → Int) (mag : Int → Int) (mpo : Int → Int) (mwy : Int → Int) (mdy : Int) (mhw : Int → Int) (mkk : Int → Int) (mkf : Int → Int) (mrs : Int → Int) (mrm : Int → Int) (mrw : Int → Int) (mth : Int) (mgr : Int → Int) (mwa : Int → Int) (mre : Int) (mpl : Int) (mib : Int) (msn : Int) (mpn : Int → Int) (mlo : Int → Int) (mtl : Int → Int) (mke : Int → Int) (mim : Int → Int) (mhi : Int) (mp0 : Int) (mtk : Int) (mki : Value) (mun : Int → Int) (msd : Int) (mbe : Int → Int) (hM : WFm mn mh mkd mfg mag mpo mwy mhw mkk mkf mrs mrm mrw) (k : Int) (h0_ : 0 ≤ k ∧ k ≤ 24) (h1_ : mlo k = 103 ∨ mlo k = 119 ∨ mlo k = 109 ∨ mlo k = 121 ∨ mlo k = 100) (h2_ : 0 ≤ mtl (4 * k) ∧ mtl (4 * k) ≤ 99) (h3_ : mlo k = 100 ∨ (0 ≤ mtl (4 * k + 1) ∧ mtl (4 * k + 1) ≤ 99)) (h4_ : mlo k ≠ 119 ∨ (mtl (4 * k + 1) ≤ 9 ∧ (0 ≤ mtl (4 * k + 2) ∧ mtl (4 * k + 2) ≤ 999) ∧ 0 ≤ mtl (4 * k + 3) ∧ mtl (4 * k + 3) ≤ 99)) (h5_ : 0 ≤ mdy ∧ mdy ≤ 999) : MI l γ yX12_comesTold wsX12_comesTold rmX12_comesTold [.ref (a 0), .int (iN (k))] (WM γ a mh mn mkd mfg mag mpo mwy mdy mhw mkk mkf mrs mrm mrw mth 0 mgr mwa mre mpl mib msn mpn mlo mtl mke mim mhi mp0 mtk mki mun msd mbe) (fun r_ w_ => ((sck (mlo k) (mtl (4 * k)) (mtl (4 * k + 1)) (mtl (4 * k + 2)) (mtl (4 * k + 3)) (Lc mh mn mdy mkd mfg mag mpo mwy)) = 1 ∧ r_ = 1 ∧ ∃ G, w_ = (WM γ a (Ct.h (snc (mlo k) (mtl (4 * k)) (mtl (4 * k + 1)) (mtl (4 * k + 2)) (mtl (4 * k + 3)) (Lc mh mn mdy mkd mfg mag mpo mwy))) (Ct.n (snc (mlo k) (mtl (4 * k)) (mtl (4 * k + 1)) (mtl (4 * k + 2)) (mtl (4 * k + 3)) (Lc mh mn mdy mkd mfg mag mpo mwy))) (Ct.kd (snc (mlo k) (mtl (4 * k)) (mtl (4 * k + 1)) (mtl (4 * k + 2)) (mtl (4 * k + 3)) (Lc mh mn mdy mkd mfg mag mpo mwy))) (Ct.fg (snc (mlo k) (mtl (4 * k)) (mtl (4 * k + 1)) (mtl (4 * k + 2)) (mtl (4 * k + 3)) (Lc mh mn mdy mkd mfg mag mpo mwy))) (Ct.ag (snc (mlo k) (mtl (4 * k)) (mtl (4 * k + 1)) (mtl (4 * k + 2)) (mtl (4 * k + 3)) (Lc mh mn mdy mkd mfg mag mpo mwy))) (Ct.po (snc (mlo k) (mtl (4 * k)) (mtl (4 * k + 1)) (mtl (4 * k + 2)) (mtl (4 * k + 3)) (Lc mh mn mdy mkd mfg mag mpo mwy))) (Ct.wy (snc (mlo k) (mtl (4 * k)) (mtl (4 * k + 1)) (mtl (4 * k + 2)) (mtl (4 * k + 3)) (Lc mh mn mdy mkd mfg mag mpo mwy))) (Ct.dy (snc (mlo k) (mtl (4 * k)) (mtl (4 * k + 1)) (mtl (4 * k + 2)) (mtl (4 * k + 3)) (Lc mh mn mdy mkd mfg mag mpo mwy))) mhw mkk mkf mrs mrm mrw mth 0 G mwa mre mpl mib msn mpn mlo mtl mke mim mhi mp0 mtk mki mun msd mbe)) ∨ ((sck (mlo k) (mtl (4 * k)) (mtl (4 * k + 1)) (mtl (4 * k + 2)) (mtl (4 * k + 3)) (Lc mh mn mdy mkd mfg mag mpo mwy)) = 0 ∧ r_ = 0 ∧ w_ = (WM γ a mh mn mkd mfg mag mpo mwy mdy mhw mkk mkf mrs mrm mrw mth 0 mgr mwa mre mpl mib msn mpn mlo mtl mke mim mhi mp0 mtk mki mun msd mbe))) 0 0 := by
  refine MI.of (cc := cX12_comesTold) (maxL := 5) (rt := .boolean) RX12 rfl (by decide +kernel) rfl (Nat.le_of_ble_eq_true rfl) ?_
  intro X C hγ hl hnm hret
  subst hγ
  have hMn := WFm.n hM
  show Wx X 0 0 (WM X.γ a mh mn mkd mfg mag mpo mwy mdy mhw mkk mkf mrs mrm mrw mth 0 mgr mwa mre mpl mib msn mpn mlo mtl mke mim mhi mp0 mtk mki mun msd mbe) 0 [(0, .ref (a 0)), (1, .int (iN (k)))] []
  refine x_aload_n C 0 rfl rfl dX12_comesTold_0 ?_
  refine x_get C in_X12_comesTold_X12 0 rfl rfl 24 (by decide) (List.mem_of_getElem? (i := 1) rfl) rfl (v := .ref (a 17)) rfl dX12_comesTold_1 ?_
  refine x_iconst (v := 0) C dX12_comesTold_4 ?_
  refine x_iload_n C 1 rfl rfl dX12_comesTold_5 ?_
  refine x_imul C dX12_comesTold_6 ?_
  refine x_iaload C (f := mtl) 17 rfl (by omega) rfl dX12_comesTold_7 ?_
  refine x_istore_n C [(2, .int (iN (mtl (4 * k)))), (0, .ref (a 0)), (1, .int (iN (k)))] rfl (by decide) rfl dX12_comesTold_8 ?_
  refine x_aload_n C 1 rfl rfl dX12_comesTold_9 ?_
  refine x_get C in_X12_comesTold_X12 0 rfl rfl 24 (by decide) (List.mem_of_getElem? (i := 1) rfl) rfl (v := .ref (a 17)) rfl dX12_comesTold_10 ?_
  refine x_iconst (v := 0) C dX12_comesTold_13 ?_
  refine x_iload_n C 2 rfl rfl dX12_comesTold_14 ?_
  refine x_imul C dX12_comesTold_15 ?_
  refine x_iconst (v := 0) C dX12_comesTold_16 ?_
  refine x_iadd C dX12_comesTold_17 ?_
  refine x_iaload C (f := mtl) 17 rfl (by omega) rfl dX12_comesTold_18 ?_
  refine x_istore_n C [(3, .int (iN (mtl ((4 * k) + 1)))), (2, .int (iN (mtl (4 * k)))), (0, .ref (a 0)), (1, .int (iN (k)))] rfl (by decide) rfl dX12_comesTold_19 ?_
  refine x_iconst (v := 0) C dX12_comesTold_20 ?_
  refine x_istore C [(4, .int (iN (1))), (3, .int (iN (mtl ((4 * k) + 1)))), (2, .int (iN (mtl (4 * k)))), (0, .ref (a 0)), (1, .int (iN (k)))] (by decide) rfl dX12_comesTold_21 ?_
  refine x_aload_n C 3 rfl rfl dX12_comesTold_23 ?_
  refine x_get C in_X12_comesTold_X12 0 rfl rfl 23 (by decide) (List.mem_of_getElem? (i := 2) rfl) rfl (v := .ref (a 16)) rfl dX12_comesTold_24 ?_
  refine x_iload_n C 4 rfl rfl dX12_comesTold_27 ?_
  refine x_iaload C (f := mlo) 16 rfl (by omega) rfl dX12_comesTold_28 ?_
  rcases (show (mlo k) = 103 ∨ (mlo k) = 109 ∨ (mlo k) = 119 ∨ (mlo k) = 121 ∨ ((mlo k) ≠ 103 ∧ (mlo k) ≠ 109 ∧ (mlo k) ≠ 119 ∧ (mlo k) ≠ 121) by omega) with s_29 | s_29 | s_29 | s_29 | s_29
  · refine x_lookup C 72 (43) (by omega) rfl (by rw [s_29]; rfl) (by decide) dX12_comesTold_29 ?_
    refine x_iload_n C 2 rfl rfl dX12_comesTold_72 ?_
    refine x_S_I C (As := [.int (iN (mtl (4 * k)))]) (rest := []) 1 gX12_comesTold_X12_isCell (c_X12_isCell _ _ (WM X.γ a mh mn mkd mfg mag mpo mwy mdy mhw mkk mkf mrs mrm mrw mth 0 mgr mwa mre mpl mib msn mpn mlo mtl mke mim mhi mp0 mtk mki mun msd mbe) (mtl (4 * k)) (by omega)) rfl ok_X12_isCell rfl rfl rfl rfl dX12_comesTold_73 (fun r w1 hp => ?_)
    obtain ⟨rfl, rfl⟩ := hp
    refine x_ifeq_bz C 89 (by decide) dX12_comesTold_76 (fun c_76 => ?_) (fun c_76 => ?_)
    · refine x_iconst (v := 0) C dX12_comesTold_89 ?_
      refine x_istore C [(4, .int (iN (0))), (3, .int (iN (mtl ((4 * k) + 1)))), (2, .int (iN (mtl (4 * k)))), (0, .ref (a 0)), (1, .int (iN (k)))] (by decide) rfl dX12_comesTold_90 ?_
      refine x_iload C 0 rfl dX12_comesTold_92 ?_
      refine x_if_eq C 104 (by decide) (by decide) dX12_comesTold_94 (fun _ => ?_) (fun z => absurd z (by decide))
      refine x_iload C 0 rfl dX12_comesTold_104 ?_
      exact hret _ _ _ _ dX12_comesTold_106 (nar_z (by decide)) (Or.inr ⟨(by rw [show mlo k = 103 by omega, sck_g]; exact if_neg (show ¬ ((0 ≤ mtl (4 * k) ∧ mtl (4 * k) ≤ 14) ∧ 0 ≤ mtl (4 * k + 1) ∧ mtl (4 * k + 1) ≤ 20) by omega)), rfl, rfl⟩)
    · refine x_iload_n C 1 rfl rfl dX12_comesTold_79 ?_
      refine x_bipush C (20) (by decide) dX12_comesTold_80 ?_
      refine x_icmp_gt C 89 (by decide) (by omega) dX12_comesTold_82 (fun c_82 => ?_) (fun c_82 => ?_)
      · refine x_iconst (v := 0) C dX12_comesTold_89 ?_
        refine x_istore C [(4, .int (iN (0))), (3, .int (iN (mtl ((4 * k) + 1)))), (2, .int (iN (mtl (4 * k)))), (0, .ref (a 0)), (1, .int (iN (k)))] (by decide) rfl dX12_comesTold_90 ?_
        refine x_iload C 0 rfl dX12_comesTold_92 ?_
        refine x_if_eq C 104 (by decide) (by decide) dX12_comesTold_94 (fun _ => ?_) (fun z => absurd z (by decide))
        refine x_iload C 0 rfl dX12_comesTold_104 ?_
        exact hret _ _ _ _ dX12_comesTold_106 (nar_z (by decide)) (Or.inr ⟨(by rw [show mlo k = 103 by omega, sck_g]; exact if_neg (show ¬ ((0 ≤ mtl (4 * k) ∧ mtl (4 * k) ≤ 14) ∧ 0 ≤ mtl (4 * k + 1) ∧ mtl (4 * k + 1) ≤ 20) by omega)), rfl, rfl⟩)
      · refine x_iconst (v := 0) C dX12_comesTold_85 ?_
        refine x_goto C 90 (by decide) dX12_comesTold_86 ?_
        refine x_istore C [(4, .int (iN (1))), (3, .int (iN (mtl ((4 * k) + 1)))), (2, .int (iN (mtl (4 * k)))), (0, .ref (a 0)), (1, .int (iN (k)))] (by decide) rfl dX12_comesTold_90 ?_
        refine x_iload C 0 rfl dX12_comesTold_92 ?_
        refine x_if_eq C 104 (by decide) (by decide) dX12_comesTold_94 (fun z => absurd z (by decide)) (fun _ => ?_)
        refine x_aload_n C 3 rfl rfl dX12_comesTold_97 ?_
        refine x_get C in_X12_comesTold_X12 0 rfl rfl 0 (by decide) (List.mem_of_getElem? (i := 3) rfl) rfl (v := .ref (a 1)) rfl dX12_comesTold_98 ?_
        refine x_iload_n C 2 rfl rfl dX12_comesTold_101 ?_
        refine x_iload_n C 1 rfl rfl dX12_comesTold_102 ?_
        refine x_iastore C (f := mh) 1 rfl (by omega) rfl (WM X.γ a (upz mh (mtl (4 * k)) (mtl ((4 * k) + 1))) mn mkd mfg mag mpo mwy mdy mhw mkk mkf mrs mrm mrw mth 0 mgr mwa mre mpl mib msn mpn mlo mtl mke mim mhi mp0 mtk mki mun msd mbe) rfl dX12_comesTold_103 ?_
        refine x_iload C 0 rfl dX12_comesTold_104 ?_
        exact hret _ _ _ _ dX12_comesTold_106 (nar_z (by decide)) (Or.inl ⟨(by rw [show mlo k = 103 by omega, sck_g]; exact if_pos (show (0 ≤ mtl (4 * k) ∧ mtl (4 * k) ≤ 14) ∧ 0 ≤ mtl (4 * k + 1) ∧ mtl (4 * k + 1) ≤ 20 by omega)), rfl, mgr, (by rw [show mlo k = 103 by omega, snc_g]; try rfl)⟩)
  · refine x_lookup C 134 (105) (by omega) rfl (by rw [s_29]; rfl) (by decide) dX12_comesTold_29 ?_
    refine x_aload_n C 3 rfl rfl dX12_comesTold_134 ?_
    refine x_iload_n C 2 rfl rfl dX12_comesTold_135 ?_
    refine x_V_I C (As := [.int (iN (mtl (4 * k)))]) (rest := []) 1 0 rfl rfl gX12_comesTold_X12_isOne rfl (c_X12_isOne _ _ a mh mn mkd mfg mag mpo mwy mdy mhw mkk mkf mrs mrm mrw mth 0 mgr mwa mre mpl mib msn mpn mlo mtl mke mim mhi mp0 mtk mki mun msd mbe hM (mtl (4 * k)) (by omega)) rfl ok_X12_isOne rfl rfl rfl rfl dX12_comesTold_136 (fun r w1 hp => ?_)
    obtain ⟨rfl, rfl⟩ := hp
    refine x_ifeq_bz C 153 (by decide) dX12_comesTold_139 (fun c_139 => ?_) (fun c_139 => ?_)
    · refine x_iconst (v := 0) C dX12_comesTold_153 ?_
      refine x_istore C [(4, .int (iN (0))), (3, .int (iN (mtl ((4 * k) + 1)))), (2, .int (iN (mtl (4 * k)))), (0, .ref (a 0)), (1, .int (iN (k)))] (by decide) rfl dX12_comesTold_154 ?_
      refine x_iload C 0 rfl dX12_comesTold_156 ?_
      refine x_if_eq C 168 (by decide) (by decide) dX12_comesTold_158 (fun _ => ?_) (fun z => absurd z (by decide))
      refine x_iload C 0 rfl dX12_comesTold_168 ?_
      exact hret _ _ _ _ dX12_comesTold_170 (nar_z (by decide)) (Or.inr ⟨(by rw [show mlo k = 109 by omega, sck_m]; exact if_neg (show ¬ ((0 ≤ mtl (4 * k) ∧ mtl (4 * k) ≤ mn - 1) ∧ 0 ≤ mtl (4 * k + 1) ∧ mtl (4 * k + 1) ≤ 14) by omega)), rfl, rfl⟩)
    · refine x_iload_n C 1 rfl rfl dX12_comesTold_142 ?_
      refine x_S_I C (As := [.int (iN (mtl ((4 * k) + 1)))]) (rest := []) 1 gX12_comesTold_X12_isCell (c_X12_isCell _ _ (WM X.γ a mh mn mkd mfg mag mpo mwy mdy mhw mkk mkf mrs mrm mrw mth 0 mgr mwa mre mpl mib msn mpn mlo mtl mke mim mhi mp0 mtk mki mun msd mbe) (mtl ((4 * k) + 1)) (by omega)) rfl ok_X12_isCell rfl rfl rfl rfl dX12_comesTold_143 (fun r w1 hp => ?_)
      obtain ⟨rfl, rfl⟩ := hp
      refine x_ifeq_bz C 153 (by decide) dX12_comesTold_146 (fun c_146 => ?_) (fun c_146 => ?_)
      · refine x_iconst (v := 0) C dX12_comesTold_153 ?_
        refine x_istore C [(4, .int (iN (0))), (3, .int (iN (mtl ((4 * k) + 1)))), (2, .int (iN (mtl (4 * k)))), (0, .ref (a 0)), (1, .int (iN (k)))] (by decide) rfl dX12_comesTold_154 ?_
        refine x_iload C 0 rfl dX12_comesTold_156 ?_
        refine x_if_eq C 168 (by decide) (by decide) dX12_comesTold_158 (fun _ => ?_) (fun z => absurd z (by decide))
        refine x_iload C 0 rfl dX12_comesTold_168 ?_
        exact hret _ _ _ _ dX12_comesTold_170 (nar_z (by decide)) (Or.inr ⟨(by rw [show mlo k = 109 by omega, sck_m]; exact if_neg (show ¬ ((0 ≤ mtl (4 * k) ∧ mtl (4 * k) ≤ mn - 1) ∧ 0 ≤ mtl (4 * k + 1) ∧ mtl (4 * k + 1) ≤ 14) by omega)), rfl, rfl⟩)
      · refine x_iconst (v := 0) C dX12_comesTold_149 ?_
        refine x_goto C 154 (by decide) dX12_comesTold_150 ?_
        refine x_istore C [(4, .int (iN (1))), (3, .int (iN (mtl ((4 * k) + 1)))), (2, .int (iN (mtl (4 * k)))), (0, .ref (a 0)), (1, .int (iN (k)))] (by decide) rfl dX12_comesTold_154 ?_
        refine x_iload C 0 rfl dX12_comesTold_156 ?_
        refine x_if_eq C 168 (by decide) (by decide) dX12_comesTold_158 (fun z => absurd z (by decide)) (fun _ => ?_)
        refine x_aload_n C 3 rfl rfl dX12_comesTold_161 ?_
        refine x_get C in_X12_comesTold_X12 0 rfl rfl 5 (by decide) (List.mem_of_getElem? (i := 4) rfl) rfl (v := .ref (a 5)) rfl dX12_comesTold_162 ?_
        refine x_iload_n C 2 rfl rfl dX12_comesTold_165 ?_
        refine x_iload_n C 1 rfl rfl dX12_comesTold_166 ?_
        refine x_iastore C (f := mpo) 5 rfl (by omega) rfl (WM X.γ a mh mn mkd mfg mag (upz mpo (mtl (4 * k)) (mtl ((4 * k) + 1))) mwy mdy mhw mkk mkf mrs mrm mrw mth 0 mgr mwa mre mpl mib msn mpn mlo mtl mke mim mhi mp0 mtk mki mun msd mbe) rfl dX12_comesTold_167 ?_
        refine x_iload C 0 rfl dX12_comesTold_168 ?_
        exact hret _ _ _ _ dX12_comesTold_170 (nar_z (by decide)) (Or.inl ⟨(by rw [show mlo k = 109 by omega, sck_m]; exact if_pos (show (0 ≤ mtl (4 * k) ∧ mtl (4 * k) ≤ mn - 1) ∧ 0 ≤ mtl (4 * k + 1) ∧ mtl (4 * k + 1) ≤ 14 by omega)), rfl, mgr, (by rw [show mlo k = 109 by omega, snc_m]; try rfl)⟩)
  · refine x_lookup C 107 (78) (by omega) rfl (by rw [s_29]; rfl) (by decide) dX12_comesTold_29 ?_
    refine x_aload_n C 3 rfl rfl dX12_comesTold_107 ?_
    refine x_iload_n C 2 rfl rfl dX12_comesTold_108 ?_
    refine x_iload_n C 1 rfl rfl dX12_comesTold_109 ?_
    refine x_aload_n C 3 rfl rfl dX12_comesTold_110 ?_
    refine x_get C in_X12_comesTold_X12 0 rfl rfl 24 (by decide) (List.mem_of_getElem? (i := 1) rfl) rfl (v := .ref (a 17)) rfl dX12_comesTold_111 ?_
    refine x_iconst (v := 0) C dX12_comesTold_114 ?_
    refine x_iload_n C 4 rfl rfl dX12_comesTold_115 ?_
    refine x_imul C dX12_comesTold_116 ?_
    refine x_iconst (v := 0) C dX12_comesTold_117 ?_
    refine x_iadd C dX12_comesTold_118 ?_
    refine x_iaload C (f := mtl) 17 rfl (by omega) rfl dX12_comesTold_119 ?_
    refine x_aload_n C 3 rfl rfl dX12_comesTold_120 ?_
    refine x_get C in_X12_comesTold_X12 0 rfl rfl 24 (by decide) (List.mem_of_getElem? (i := 1) rfl) rfl (v := .ref (a 17)) rfl dX12_comesTold_121 ?_
    refine x_iconst (v := 0) C dX12_comesTold_124 ?_
    refine x_iload_n C 4 rfl rfl dX12_comesTold_125 ?_
    refine x_imul C dX12_comesTold_126 ?_
    refine x_iconst (v := 0) C dX12_comesTold_127 ?_
    refine x_iadd C dX12_comesTold_128 ?_
    refine x_iaload C (f := mtl) 17 rfl (by omega) rfl dX12_comesTold_129 ?_
    refine x_V_I C (As := [.int (iN (mtl (4 * k))), .int (iN (mtl ((4 * k) + 1))), .int (iN (mtl ((4 * k) + 2))), .int (iN (mtl ((4 * k) + 3)))]) (rest := []) 4 0 rfl rfl gX12_comesTold_X12_oneComes rfl (c_X12_oneComes _ _ a mh mn mkd mfg mag mpo mwy mdy mhw mkk mkf mrs mrm mrw mth 0 mgr mwa mre mpl mib msn mpn mlo mtl mke mim mhi mp0 mtk mki mun msd mbe hM (mtl (4 * k)) (mtl ((4 * k) + 1)) (mtl ((4 * k) + 2)) (mtl ((4 * k) + 3)) (by omega) (by omega) (by omega) (by omega)) rfl ok_X12_oneComes rfl rfl rfl rfl dX12_comesTold_130 (fun r w1 hp => ?_)
    rcases hp with ⟨hp1, rfl, rfl⟩ | ⟨hp1, rfl, rfl⟩
    · exact hret _ _ _ _ dX12_comesTold_133 (nar_z (by decide)) (Or.inl ⟨(by rw [show mlo k = 119 by omega, sck_w]; exact if_pos (show (0 ≤ mtl (4 * k) ∧ mtl (4 * k) ≤ 7) ∧ (0 ≤ mtl (4 * k + 1) ∧ mtl (4 * k + 1) ≤ 9) ∧ (0 ≤ mtl (4 * k + 2) ∧ mtl (4 * k + 2) ≤ 120) ∧ (0 ≤ mtl (4 * k + 3) ∧ mtl (4 * k + 3) ≤ 14) ∧ mn < 6 by omega)), rfl, mgr, (by rw [show mlo k = 119 by omega, snc_w]; try rfl)⟩)
    · exact hret _ _ _ _ dX12_comesTold_133 (nar_z (by decide)) (Or.inr ⟨(by rw [show mlo k = 119 by omega, sck_w]; exact if_neg (show ¬ ((0 ≤ mtl (4 * k) ∧ mtl (4 * k) ≤ 7) ∧ (0 ≤ mtl (4 * k + 1) ∧ mtl (4 * k + 1) ≤ 9) ∧ (0 ≤ mtl (4 * k + 2) ∧ mtl (4 * k + 2) ≤ 120) ∧ (0 ≤ mtl (4 * k + 3) ∧ mtl (4 * k + 3) ≤ 14) ∧ mn < 6) by omega)), rfl, rfl⟩)
  · refine x_lookup C 171 (142) (by omega) rfl (by rw [s_29]; rfl) (by decide) dX12_comesTold_29 ?_
    refine x_aload_n C 3 rfl rfl dX12_comesTold_171 ?_
    refine x_iload_n C 2 rfl rfl dX12_comesTold_172 ?_
    refine x_V_I C (As := [.int (iN (mtl (4 * k)))]) (rest := []) 1 0 rfl rfl gX12_comesTold_X12_isOne rfl (c_X12_isOne _ _ a mh mn mkd mfg mag mpo mwy mdy mhw mkk mkf mrs mrm mrw mth 0 mgr mwa mre mpl mib msn mpn mlo mtl mke mim mhi mp0 mtk mki mun msd mbe hM (mtl (4 * k)) (by omega)) rfl ok_X12_isOne rfl rfl rfl rfl dX12_comesTold_173 (fun r w1 hp => ?_)
    obtain ⟨rfl, rfl⟩ := hp
    refine x_ifeq_bz C 188 (by decide) dX12_comesTold_176 (fun c_176 => ?_) (fun c_176 => ?_)
    · refine x_iconst (v := 0) C dX12_comesTold_188 ?_
      refine x_istore C [(4, .int (iN (0))), (3, .int (iN (mtl ((4 * k) + 1)))), (2, .int (iN (mtl (4 * k)))), (0, .ref (a 0)), (1, .int (iN (k)))] (by decide) rfl dX12_comesTold_189 ?_
      refine x_iload C 0 rfl dX12_comesTold_191 ?_
      refine x_if_eq C 206 (by decide) (by decide) dX12_comesTold_193 (fun _ => ?_) (fun z => absurd z (by decide))
      refine x_iload C 0 rfl dX12_comesTold_206 ?_
      exact hret _ _ _ _ dX12_comesTold_208 (nar_z (by decide)) (Or.inr ⟨(by rw [show mlo k = 121 by omega, sck_y]; exact if_neg (show ¬ ((0 ≤ mtl (4 * k) ∧ mtl (4 * k) ≤ mn - 1) ∧ 0 ≤ mtl (4 * k + 1) ∧ mtl (4 * k + 1) ≤ 2) by omega)), rfl, rfl⟩)
    · refine x_iload_n C 1 rfl rfl dX12_comesTold_179 ?_
      refine x_iconst (v := 0) C dX12_comesTold_180 ?_
      refine x_icmp_gt C 188 (by decide) (by omega) dX12_comesTold_181 (fun c_181 => ?_) (fun c_181 => ?_)
      · refine x_iconst (v := 0) C dX12_comesTold_188 ?_
        refine x_istore C [(4, .int (iN (0))), (3, .int (iN (mtl ((4 * k) + 1)))), (2, .int (iN (mtl (4 * k)))), (0, .ref (a 0)), (1, .int (iN (k)))] (by decide) rfl dX12_comesTold_189 ?_
        refine x_iload C 0 rfl dX12_comesTold_191 ?_
        refine x_if_eq C 206 (by decide) (by decide) dX12_comesTold_193 (fun _ => ?_) (fun z => absurd z (by decide))
        refine x_iload C 0 rfl dX12_comesTold_206 ?_
        exact hret _ _ _ _ dX12_comesTold_208 (nar_z (by decide)) (Or.inr ⟨(by rw [show mlo k = 121 by omega, sck_y]; exact if_neg (show ¬ ((0 ≤ mtl (4 * k) ∧ mtl (4 * k) ≤ mn - 1) ∧ 0 ≤ mtl (4 * k + 1) ∧ mtl (4 * k + 1) ≤ 2) by omega)), rfl, rfl⟩)
      · refine x_iconst (v := 0) C dX12_comesTold_184 ?_
        refine x_goto C 189 (by decide) dX12_comesTold_185 ?_
        refine x_istore C [(4, .int (iN (1))), (3, .int (iN (mtl ((4 * k) + 1)))), (2, .int (iN (mtl (4 * k)))), (0, .ref (a 0)), (1, .int (iN (k)))] (by decide) rfl dX12_comesTold_189 ?_
        refine x_iload C 0 rfl dX12_comesTold_191 ?_
        refine x_if_eq C 206 (by decide) (by decide) dX12_comesTold_193 (fun z => absurd z (by decide)) (fun _ => ?_)
        refine x_aload_n C 3 rfl rfl dX12_comesTold_196 ?_
        refine x_get C in_X12_comesTold_X12 0 rfl rfl 6 (by decide) (List.mem_of_getElem? (i := 5) rfl) rfl (v := .ref (a 6)) rfl dX12_comesTold_197 ?_
        refine x_iload_n C 2 rfl rfl dX12_comesTold_200 ?_
        refine x_iload_n C 1 rfl rfl dX12_comesTold_201 ?_
        refine x_S_I C (As := [.int (iN (mtl ((4 * k) + 1)))]) (rest := [.int (iN (mtl (4 * k))), .ref (a 6)]) 1 gX12_comesTold_X12_wayOf (c_X12_wayOf _ _ (WM X.γ a mh mn mkd mfg mag mpo mwy mdy mhw mkk mkf mrs mrm mrw mth 0 mgr mwa mre mpl mib msn mpn mlo mtl mke mim mhi mp0 mtk mki mun msd mbe) (mtl ((4 * k) + 1)) (by omega)) rfl ok_X12_wayOf rfl rfl rfl rfl dX12_comesTold_202 (fun r w1 hp => ?_)
        obtain ⟨rfl, rfl⟩ := hp
        show Wx X 0 0 (WM X.γ a mh mn mkd mfg mag mpo mwy mdy mhw mkk mkf mrs mrm mrw mth 0 mgr mwa mre mpl mib msn mpn mlo mtl mke mim mhi mp0 mtk mki mun msd mbe) 205 [(4, .int (iN (1))), (3, .int (iN (mtl ((4 * k) + 1)))), (2, .int (iN (mtl (4 * k)))), (0, .ref (a 0)), (1, .int (iN (k)))] [.int (iN (if (mtl ((4 * k) + 1)) = 0 then 0 else if (mtl ((4 * k) + 1)) = 1 then -1 else 1)), .int (iN (mtl (4 * k))), .ref (a 6)]
        refine x_iastore C (f := mwy) 6 rfl (by omega) rfl (WM X.γ a mh mn mkd mfg mag mpo (upz mwy (mtl (4 * k)) (if (mtl ((4 * k) + 1)) = 0 then 0 else if (mtl ((4 * k) + 1)) = 1 then -1 else 1)) mdy mhw mkk mkf mrs mrm mrw mth 0 mgr mwa mre mpl mib msn mpn mlo mtl mke mim mhi mp0 mtk mki mun msd mbe) rfl dX12_comesTold_205 ?_
        refine x_iload C 0 rfl dX12_comesTold_206 ?_
        exact hret _ _ _ _ dX12_comesTold_208 (nar_z (by decide)) (Or.inl ⟨(by rw [show mlo k = 121 by omega, sck_y]; exact if_pos (show (0 ≤ mtl (4 * k) ∧ mtl (4 * k) ≤ mn - 1) ∧ 0 ≤ mtl (4 * k + 1) ∧ mtl (4 * k + 1) ≤ 2 by omega)), rfl, mgr, (by rw [show mlo k = 121 by omega, snc_y]; try rfl)⟩)
  · refine x_lookup C 209 (180) (by omega) rfl (by rw [Op.lookupswitch.offset_cons, if_neg (by omega)]; rw [Op.lookupswitch.offset_cons, if_neg (by omega)]; rw [Op.lookupswitch.offset_cons, if_neg (by omega)]; rw [Op.lookupswitch.offset_cons, if_neg (by omega)]; rfl) (by decide) dX12_comesTold_29 ?_
    refine x_aload_n C 3 rfl rfl dX12_comesTold_209 ?_
    refine x_iload_n C 2 rfl rfl dX12_comesTold_210 ?_
    refine x_V_I C (As := [.int (iN (mtl (4 * k)))]) (rest := []) 1 0 rfl rfl gX12_comesTold_X12_daysCome rfl (c_X12_daysCome _ _ a mh mn mkd mfg mag mpo mwy mdy mhw mkk mkf mrs mrm mrw mth mgr mwa mre mpl mib msn mpn mlo mtl mke mim mhi mp0 mtk mki mun msd mbe hM (mtl (4 * k)) (by omega) (by omega)) rfl ok_X12_daysCome rfl rfl rfl rfl dX12_comesTold_211 (fun r w1 hp => ?_)
    rcases hp with ⟨hp1, rfl, Gb218, rfl⟩ | ⟨hp1, rfl, rfl⟩
    · exact hret _ _ _ _ dX12_comesTold_214 (nar_z (by decide)) (Or.inl ⟨(by rw [show mlo k = 100 by omega, sck_d]; exact if_pos (show (1 ≤ mtl (4 * k) ∧ mtl (4 * k) ≤ 60) ∧ mdy + mtl (4 * k) ≤ 999 by omega)), rfl, Gb218, (by rw [show mlo k = 100 by omega, snc_d]; obtain ⟨e1, e2, e3, e4, e5, _⟩ := Ct.days_eq (Lc mh mn mdy mkd mfg mag mpo mwy) (mtl (4 * k)).toNat; rw [e1, e2, e3, e4, e5]; try rfl)⟩)
    · exact hret _ _ _ _ dX12_comesTold_214 (nar_z (by decide)) (Or.inr ⟨(by rw [show mlo k = 100 by omega, sck_d]; exact if_neg (show ¬ ((1 ≤ mtl (4 * k) ∧ mtl (4 * k) ≤ 60) ∧ mdy + mtl (4 * k) ≤ 999) by omega)), rfl, rfl⟩)
end HTEXaa
