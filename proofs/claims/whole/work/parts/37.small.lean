section HSMA
theorem ok_X12_narrowed : okY yX12_narrowed 2 := by decide +kernel
def rmX12_narrowed : Room := { frames := 0, cells := 0, slots := 0, locals := 0 }
set_option maxRecDepth 100000 in
set_option maxHeartbeats 400000 in
theorem c_X12_narrowed (l : Launch) (γ : GX) (w0 : va_W) (v : Int) (so : Int) (h0_ : -2147483648 ≤ v ∧ v < 2147483648) (h1_ : -2147483648 ≤ so ∧ so < 2147483648) : MJ l γ yX12_narrowed wsX12_narrowed rmX12_narrowed [.int (iN (v)), .int (iN (so))] w0 (fun r_ w_ => r_ = (nar so v) ∧ w_ = w0) 0 0 := by
  refine MJ.of (cc := cX12_narrowed) (maxL := 2) RX12 rfl (by decide +kernel) rfl (Nat.le_of_ble_eq_true rfl) ?_
  intro X C hγ hl hnm hret
  subst hγ
  show Wx X 0 0 w0 0 [(0, .int (iN (v))), (1, .int (iN (so)))] []
  refine x_iload_n C 1 rfl rfl dX12_narrowed_0 ?_
  refine x_if_ne C 10 (by decide) (by omega) dX12_narrowed_1 (fun c_1 => ?_) (fun c_1 => ?_)
  · refine x_iload_n C 1 rfl rfl dX12_narrowed_10 ?_
    refine x_iconst (v := 0) C dX12_narrowed_11 ?_
    refine x_icmp_ne C 21 (by decide) (by omega) dX12_narrowed_12 (fun c_12 => ?_) (fun c_12 => ?_)
    · refine x_iload_n C 0 rfl rfl dX12_narrowed_21 ?_
      refine x_i2l C (by omega) dX12_narrowed_22 ?_
      exact hret _ _ _ _ dX12_narrowed_23 ⟨(by unfold nar; rw [if_neg (show ¬ so = 0 by omega), if_neg (show ¬ so = 1 by omega)]), rfl⟩
    · refine x_iload_n C 0 rfl rfl dX12_narrowed_15 ?_
      refine x_i2s C (nsz v) (nsz_e _) dX12_narrowed_16 ?_
      have b_16 := nsz_b v
      refine x_i2l C (by omega) dX12_narrowed_17 ?_
      refine x_goto C 23 (by decide) dX12_narrowed_18 ?_
      exact hret _ _ _ _ dX12_narrowed_23 ⟨(by unfold nar; rw [if_neg (show ¬ so = 0 by omega), if_pos (show so = 1 by omega)]), rfl⟩
  · refine x_iload_n C 0 rfl rfl dX12_narrowed_4 ?_
    refine x_i2b C (nbz v) (nbz_e _) dX12_narrowed_5 ?_
    have b_5 := nbz_b v
    refine x_i2l C (by omega) dX12_narrowed_6 ?_
    refine x_goto C 23 (by decide) dX12_narrowed_7 ?_
    exact hret _ _ _ _ dX12_narrowed_23 ⟨(by unfold nar; rw [if_pos (show so = 0 by omega)]), rfl⟩
theorem in_X12_keep_X12 : ∀ w ∈ u_ws RX12 TX12 34, w ∈ wsX12_keep := by decide +kernel
theorem ok_X12_keep : okY yX12_keep 4 := by decide +kernel
def rmX12_keep : Room := { frames := 1, cells := 0, slots := 0, locals := 25 }
set_option maxRecDepth 100000 in
set_option maxHeartbeats 400000 in
theorem c_X12_keep (l : Launch) (γ : GX) (a : Nat → Nat) (mh : Int → Int) (mn : Int) (mkd : Int → Int) (mfg : Int → Int) (mag : Int → Int) (mpo : Int → Int) (mwy : Int → Int) (mdy : Int) (mhw : Int → Int) (mkk : Int → Int) (mkf : Int → Int) (mrs : Int → Int) (mrm : Int → Int) (mrw : Int → Int) (mth : Int) (mgr : Int → Int) (mwa : Int → Int) (mre : Int) (mpl : Int) (mib : Int) (msn : Int) (mpn : Int → Int) (mlo : Int → Int) (mtl : Int → Int) (mke : Int → Int) (mim : Int → Int) (mhi : Int) (mp0 : Int) (mtk : Int) (mki : Value) (mun : Int → Int) (msd : Int) (mbe : Int → Int) (hM : WFm mn mh mkd mfg mag mpo mwy mhw mkk mkf mrs mrm mrw) (d : Int) (w : Int) (k : Int) (fg : Int) (h0_ : -2147483648 ≤ d ∧ d < 2147483648) (h1_ : -2147483648 ≤ w ∧ w < 2147483648) (h2_ : -2147483648 ≤ k ∧ k < 2147483648) (h3_ : -2147483648 ≤ fg ∧ fg < 2147483648) : MI l γ yX12_keep wsX12_keep rmX12_keep [.ref (a 0), .int (iN (d)), .int (iN (w)), .int (iN (k)), .int (iN (fg))] (WM γ a mh mn mkd mfg mag mpo mwy mdy mhw mkk mkf mrs mrm mrw mth 0 mgr mwa mre mpl mib msn mpn mlo mtl mke mim mhi mp0 mtk mki mun msd mbe) (fun r_ w_ => (((0 ≤ d ∧ d ≤ 7) ∧ (0 ≤ w ∧ w ≤ 1) ∧ (w ≠ 1 ∨ ((0 ≤ k ∧ k ≤ 7) ∧ 0 ≤ fg ∧ fg ≤ 9))) ∧ r_ = 0 ∧ Wk γ a mh mn mkd mfg mag mpo mwy mdy (upz mhw d w) (upz mkk d (if w = 1 then k else 0)) (upz mkf d (if w = 1 then fg else 0)) mrs mrm mrw 0 mim mhi w_) ∨ (¬ ((0 ≤ d ∧ d ≤ 7) ∧ (0 ≤ w ∧ w ≤ 1) ∧ (w ≠ 1 ∨ ((0 ≤ k ∧ k ≤ 7) ∧ 0 ≤ fg ∧ fg ≤ 9))) ∧ r_ = -1 ∧ Wk γ a mh mn mkd mfg mag mpo mwy mdy mhw mkk mkf mrs mrm mrw 0 mim mhi w_)) 0 0 := by
  refine MI.of (cc := cX12_keep) (maxL := 5) (rt := .int) RX12 rfl (by decide +kernel) rfl (Nat.le_of_ble_eq_true rfl) ?_
  intro X C hγ hl hnm hret
  subst hγ
  have hMn := WFm.n hM
  show Wx X 0 0 (WM X.γ a mh mn mkd mfg mag mpo mwy mdy mhw mkk mkf mrs mrm mrw mth 0 mgr mwa mre mpl mib msn mpn mlo mtl mke mim mhi mp0 mtk mki mun msd mbe) 0 [(0, .ref (a 0)), (1, .int (iN (d))), (2, .int (iN (w))), (3, .int (iN (k))), (4, .int (iN (fg)))] []
  refine x_aload_n C 0 rfl rfl dX12_keep_0 ?_
  refine x_iconst (v := 0) C dX12_keep_1 ?_
  refine x_put C in_X12_keep_X12 tyX12 tyX12_ok nmX12 0 rfl rfl 14 (by decide) (List.mem_of_getElem? (i := 1) rfl) rfl rfl rfl rfl rfl (Nat.le_of_ble_eq_true rfl) (WM X.γ a mh mn mkd mfg mag mpo mwy mdy mhw mkk mkf mrs mrm mrw 0 0 mgr mwa mre mpl mib msn mpn mlo mtl mke mim mhi mp0 mtk mki mun msd mbe) rfl dX12_keep_2 ?_
  refine x_iload_n C 1 rfl rfl dX12_keep_5 ?_
  refine x_i2l C (by omega) dX12_keep_6 ?_
  refine x_lconst C 0 rfl dX12_keep_7 ?_
  refine x_ldc2 C (7) (List.mem_of_getElem? (i := 2) rfl) (by decide) dX12_keep_8 ?_
  refine x_S_I C (As := [.long (jN (d)), .long (jN (0)), .long (jN (7))]) (rest := []) 3 gX12_keep_X12_in (c_X12_in _ _ (WM X.γ a mh mn mkd mfg mag mpo mwy mdy mhw mkk mkf mrs mrm mrw 0 0 mgr mwa mre mpl mib msn mpn mlo mtl mke mim mhi mp0 mtk mki mun msd mbe) (d) (0) (7) (by omega) (by omega) (by omega)) rfl ok_X12_in rfl rfl rfl rfl dX12_keep_11 (fun r w1 hp => ?_)
  obtain ⟨rfl, rfl⟩ := hp
  refine x_ifeq_bz C 57 (by decide) dX12_keep_14 (fun c_14 => ?_) (fun c_14 => ?_)
  · refine x_iconst (v := 0) C dX12_keep_57 ?_
    exact hret _ _ _ _ dX12_keep_58 rfl (Or.inr ⟨(by omega), rfl, Wk.mk⟩)
  · refine x_iload_n C 2 rfl rfl dX12_keep_17 ?_
    refine x_i2l C (by omega) dX12_keep_18 ?_
    refine x_lconst C 0 rfl dX12_keep_19 ?_
    refine x_lconst C 1 rfl dX12_keep_20 ?_
    refine x_S_I C (As := [.long (jN (w)), .long (jN (0)), .long (jN (1))]) (rest := []) 3 gX12_keep_X12_in (c_X12_in _ _ (WM X.γ a mh mn mkd mfg mag mpo mwy mdy mhw mkk mkf mrs mrm mrw 0 0 mgr mwa mre mpl mib msn mpn mlo mtl mke mim mhi mp0 mtk mki mun msd mbe) (w) (0) (1) (by omega) (by omega) (by omega)) rfl ok_X12_in rfl rfl rfl rfl dX12_keep_21 (fun r w1 hp => ?_)
    obtain ⟨rfl, rfl⟩ := hp
    refine x_ifeq_bz C 57 (by decide) dX12_keep_24 (fun c_24 => ?_) (fun c_24 => ?_)
    · refine x_iconst (v := 0) C dX12_keep_57 ?_
      exact hret _ _ _ _ dX12_keep_58 rfl (Or.inr ⟨(by omega), rfl, Wk.mk⟩)
    · refine x_iload_n C 2 rfl rfl dX12_keep_27 ?_
      refine x_iconst (v := 0) C dX12_keep_28 ?_
      have LP59 : ((0 ≤ d ∧ d ≤ 7) ∧ (0 ≤ w ∧ w ≤ 1) ∧ (w ≠ 1 ∨ ((0 ≤ k ∧ k ≤ 7) ∧ 0 ≤ fg ∧ fg ≤ 9))) → Wx X 0 0 (WM X.γ a mh mn mkd mfg mag mpo mwy mdy mhw mkk mkf mrs mrm mrw 0 0 mgr mwa mre mpl mib msn mpn mlo mtl mke mim mhi mp0 mtk mki mun msd mbe) 59 [(0, .ref (a 0)), (1, .int (iN (d))), (2, .int (iN (w))), (3, .int (iN (k))), (4, .int (iN (fg)))] [] := by
        intro hPK
        refine x_aload_n C 0 rfl rfl dX12_keep_59 ?_
        refine x_get C in_X12_keep_X12 0 rfl rfl 8 (by decide) (List.mem_of_getElem? (i := 4) rfl) rfl (v := .ref (a 7)) rfl dX12_keep_60 ?_
        refine x_iload_n C 1 rfl rfl dX12_keep_63 ?_
        refine x_iload_n C 2 rfl rfl dX12_keep_64 ?_
        refine x_iastore C (f := mhw) 7 rfl (by omega) rfl (WM X.γ a mh mn mkd mfg mag mpo mwy mdy (upz mhw d w) mkk mkf mrs mrm mrw 0 0 mgr mwa mre mpl mib msn mpn mlo mtl mke mim mhi mp0 mtk mki mun msd mbe) rfl dX12_keep_65 ?_
        refine x_aload_n C 0 rfl rfl dX12_keep_66 ?_
        refine x_get C in_X12_keep_X12 0 rfl rfl 9 (by decide) (List.mem_of_getElem? (i := 5) rfl) rfl (v := .ref (a 8)) rfl dX12_keep_67 ?_
        refine x_iload_n C 1 rfl rfl dX12_keep_70 ?_
        refine x_iload_n C 2 rfl rfl dX12_keep_71 ?_
        refine x_iconst (v := 0) C dX12_keep_72 ?_
        have LP81 : ∀ (s0_81 : Int), (s0_81 = (if w = 1 then k else 0)) → Wx X 0 0 (WM X.γ a mh mn mkd mfg mag mpo mwy mdy (upz mhw d w) mkk mkf mrs mrm mrw 0 0 mgr mwa mre mpl mib msn mpn mlo mtl mke mim mhi mp0 mtk mki mun msd mbe) 81 [(0, .ref (a 0)), (1, .int (iN (d))), (2, .int (iN (w))), (3, .int (iN (k))), (4, .int (iN (fg)))] [.int (iN (s0_81)), .int (iN (d)), .ref (a 8)] := by
          intro s0_81 es0_81
          refine x_iastore C (f := mkk) 8 rfl (by omega) rfl (WM X.γ a mh mn mkd mfg mag mpo mwy mdy (upz mhw d w) (upz mkk d s0_81) mkf mrs mrm mrw 0 0 mgr mwa mre mpl mib msn mpn mlo mtl mke mim mhi mp0 mtk mki mun msd mbe) rfl dX12_keep_81 ?_
          refine x_aload_n C 0 rfl rfl dX12_keep_82 ?_
          refine x_get C in_X12_keep_X12 0 rfl rfl 10 (by decide) (List.mem_of_getElem? (i := 6) rfl) rfl (v := .ref (a 9)) rfl dX12_keep_83 ?_
          refine x_iload_n C 1 rfl rfl dX12_keep_86 ?_
          refine x_iload_n C 2 rfl rfl dX12_keep_87 ?_
          refine x_iconst (v := 0) C dX12_keep_88 ?_
          have LP98 : ∀ (s0_98 : Int), (s0_98 = (if w = 1 then fg else 0)) → Wx X 0 0 (WM X.γ a mh mn mkd mfg mag mpo mwy mdy (upz mhw d w) (upz mkk d s0_81) mkf mrs mrm mrw 0 0 mgr mwa mre mpl mib msn mpn mlo mtl mke mim mhi mp0 mtk mki mun msd mbe) 98 [(0, .ref (a 0)), (1, .int (iN (d))), (2, .int (iN (w))), (3, .int (iN (k))), (4, .int (iN (fg)))] [.int (iN (s0_98)), .int (iN (d)), .ref (a 9)] := by
            intro s0_98 es0_98
            refine x_iastore C (f := mkf) 9 rfl (by omega) rfl (WM X.γ a mh mn mkd mfg mag mpo mwy mdy (upz mhw d w) (upz mkk d s0_81) (upz mkf d s0_98) mrs mrm mrw 0 0 mgr mwa mre mpl mib msn mpn mlo mtl mke mim mhi mp0 mtk mki mun msd mbe) rfl dX12_keep_98 ?_
            refine x_iconst (v := 0) C dX12_keep_99 ?_
            exact hret _ _ _ _ dX12_keep_100 rfl (Or.inl ⟨(by omega), rfl, (by rw [es0_81, es0_98]; exact Wk.mk)⟩)
          refine x_icmp_ne C 97 (by decide) (by omega) dX12_keep_89 (fun c_89 => ?_) (fun c_89 => ?_)
          · refine x_iconst (v := 0) C dX12_keep_97 ?_
            exact LP98 _ (by omega)
          · refine x_iload C 4 rfl dX12_keep_92 ?_
            refine x_goto C 98 (by decide) dX12_keep_94 ?_
            exact LP98 _ (by omega)
        refine x_icmp_ne C 80 (by decide) (by omega) dX12_keep_73 (fun c_73 => ?_) (fun c_73 => ?_)
        · refine x_iconst (v := 0) C dX12_keep_80 ?_
          exact LP81 _ (by omega)
        · refine x_iload_n C 3 rfl rfl dX12_keep_76 ?_
          refine x_goto C 81 (by decide) dX12_keep_77 ?_
          exact LP81 _ (by omega)
      refine x_icmp_ne C 59 (by decide) (by omega) dX12_keep_29 (fun c_29 => ?_) (fun c_29 => ?_)
      · exact LP59 (by omega)
      · refine x_iload_n C 3 rfl rfl dX12_keep_32 ?_
        refine x_i2l C (by omega) dX12_keep_33 ?_
        refine x_lconst C 0 rfl dX12_keep_34 ?_
        refine x_ldc2 C (7) (List.mem_of_getElem? (i := 2) rfl) (by decide) dX12_keep_35 ?_
        refine x_S_I C (As := [.long (jN (k)), .long (jN (0)), .long (jN (7))]) (rest := []) 3 gX12_keep_X12_in (c_X12_in _ _ (WM X.γ a mh mn mkd mfg mag mpo mwy mdy mhw mkk mkf mrs mrm mrw 0 0 mgr mwa mre mpl mib msn mpn mlo mtl mke mim mhi mp0 mtk mki mun msd mbe) (k) (0) (7) (by omega) (by omega) (by omega)) rfl ok_X12_in rfl rfl rfl rfl dX12_keep_38 (fun r w1 hp => ?_)
        obtain ⟨rfl, rfl⟩ := hp
        refine x_ifeq_bz C 57 (by decide) dX12_keep_41 (fun c_41 => ?_) (fun c_41 => ?_)
        · refine x_iconst (v := 0) C dX12_keep_57 ?_
          exact hret _ _ _ _ dX12_keep_58 rfl (Or.inr ⟨(by omega), rfl, Wk.mk⟩)
        · refine x_iload C 4 rfl dX12_keep_44 ?_
          refine x_i2l C (by omega) dX12_keep_46 ?_
          refine x_lconst C 0 rfl dX12_keep_47 ?_
          refine x_ldc2 C (9) (List.mem_of_getElem? (i := 3) rfl) (by decide) dX12_keep_48 ?_
          refine x_S_I C (As := [.long (jN (fg)), .long (jN (0)), .long (jN (9))]) (rest := []) 3 gX12_keep_X12_in (c_X12_in _ _ (WM X.γ a mh mn mkd mfg mag mpo mwy mdy mhw mkk mkf mrs mrm mrw 0 0 mgr mwa mre mpl mib msn mpn mlo mtl mke mim mhi mp0 mtk mki mun msd mbe) (fg) (0) (9) (by omega) (by omega) (by omega)) rfl ok_X12_in rfl rfl rfl rfl dX12_keep_51 (fun r w1 hp => ?_)
          obtain ⟨rfl, rfl⟩ := hp
          refine x_ifne_bz C 59 (by decide) dX12_keep_54 (fun c_54 => ?_) (fun c_54 => ?_)
          · exact LP59 (by omega)
          · refine x_iconst (v := 0) C dX12_keep_57 ?_
            exact hret _ _ _ _ dX12_keep_58 rfl (Or.inr ⟨(by omega), rfl, Wk.mk⟩)
end HSMA
