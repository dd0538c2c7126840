section HCOM
theorem in_X12_oneComes_X12 : ∀ w ∈ u_ws RX12 TX12 34, w ∈ wsX12_oneComes := by decide +kernel
theorem ok_X12_oneComes : okY yX12_oneComes 4 := by decide +kernel
def rmX12_oneComes : Room := { frames := 2, cells := 0, slots := 0, locals := 45 }
set_option maxRecDepth 100000 in
set_option maxHeartbeats 400000 in
theorem c_X12_oneComes (l : Launch) (γ : GX) (a : Nat → Nat) (mh : Int → Int) (mn : Int) (mkd : Int → Int) (mfg : Int → Int) (mag : Int → Int) (mpo : Int → Int) (mwy : Int → Int) (mdy : Int) (mhw : Int → Int) (mkk : Int → Int) (mkf : Int → Int) (mrs : Int → Int) (mrm : Int → Int) (mrw : Int → Int) (mth : Int) (maw : Int) (mgr : Int → Int) (mwa : Int → Int) (mre : Int) (mpl : Int) (mib : Int) (msn : Int) (mpn : Int → Int) (mlo : Int → Int) (mtl : Int → Int) (mke : Int → Int) (mim : Int → Int) (mhi : Int) (mp0 : Int) (mtk : Int) (mki : Value) (mun : Int → Int) (msd : Int) (mbe : Int → Int) (hM : WFm mn mh mkd mfg mag mpo mwy mhw mkk mkf mrs mrm mrw) (k : Int) (fg : Int) (ag : Int) (cell : Int) (h0_ : 0 ≤ k ∧ k < 2147483648) (h1_ : 0 ≤ fg ∧ fg ≤ 9) (h2_ : -2147483648 ≤ ag ∧ ag < 2147483648) (h3_ : -2147483648 ≤ cell ∧ cell < 2147483648) : MI l γ yX12_oneComes wsX12_oneComes rmX12_oneComes [.ref (a 0), .int (iN (k)), .int (iN (fg)), .int (iN (ag)), .int (iN (cell))] (WM γ a mh mn mkd mfg mag mpo mwy mdy mhw mkk mkf mrs mrm mrw mth maw mgr mwa mre mpl mib msn mpn mlo mtl mke mim mhi mp0 mtk mki mun msd mbe) (fun r_ w_ => ((k < 8 ∧ (0 ≤ ag ∧ ag ≤ 120) ∧ (0 ≤ cell ∧ cell ≤ 14) ∧ mn < 6) ∧ r_ = 1 ∧ w_ = (WM γ a mh (mn + 1) (upz mkd mn k) (upz mfg mn fg) (upz mag mn ag) (upz mpo mn cell) (upz mwy mn 0) mdy mhw mkk mkf mrs mrm mrw mth maw mgr mwa mre mpl mib msn mpn mlo mtl mke mim mhi mp0 mtk mki mun msd mbe)) ∨ (¬ (k < 8 ∧ (0 ≤ ag ∧ ag ≤ 120) ∧ (0 ≤ cell ∧ cell ≤ 14) ∧ mn < 6) ∧ r_ = 0 ∧ w_ = (WM γ a mh mn mkd mfg mag mpo mwy mdy mhw mkk mkf mrs mrm mrw mth maw mgr mwa mre mpl mib msn mpn mlo mtl mke mim mhi mp0 mtk mki mun msd mbe))) 0 0 := by
  refine MI.of (cc := cX12_oneComes) (maxL := 6) (rt := .boolean) RX12 rfl (by decide +kernel) rfl (Nat.le_of_ble_eq_true rfl) ?_
  intro X C hγ hl hnm hret
  subst hγ
  have hMn := WFm.n hM
  show Wx X 0 0 (WM X.γ a mh mn mkd mfg mag mpo mwy mdy mhw mkk mkf mrs mrm mrw mth maw mgr mwa mre mpl mib msn mpn mlo mtl mke mim mhi mp0 mtk mki mun msd mbe) 0 [(0, .ref (a 0)), (1, .int (iN (k))), (2, .int (iN (fg))), (3, .int (iN (ag))), (4, .int (iN (cell)))] []
  refine x_iload_n C 1 rfl rfl dX12_oneComes_0 ?_
  refine x_bipush C (8) (by decide) dX12_oneComes_1 ?_
  have LP40 : ∀ (s0_40 : Int), (s0_40 = (if k < 8 ∧ (0 ≤ ag ∧ ag ≤ 120) ∧ (0 ≤ cell ∧ cell ≤ 14) ∧ mn < 6 then 1 else 0)) → Wx X 0 0 (WM X.γ a mh mn mkd mfg mag mpo mwy mdy mhw mkk mkf mrs mrm mrw mth maw mgr mwa mre mpl mib msn mpn mlo mtl mke mim mhi mp0 mtk mki mun msd mbe) 40 [(0, .ref (a 0)), (1, .int (iN (k))), (2, .int (iN (fg))), (3, .int (iN (ag))), (4, .int (iN (cell)))] [.int (iN (s0_40))] := by
    intro s0_40 es0_40
    refine x_istore C [(5, .int (iN (s0_40))), (0, .ref (a 0)), (1, .int (iN (k))), (2, .int (iN (fg))), (3, .int (iN (ag))), (4, .int (iN (cell)))] (by decide) rfl dX12_oneComes_40 ?_
    refine x_iload C 0 rfl dX12_oneComes_42 ?_
    refine x_if_eq C 108 (by decide) (by omega) dX12_oneComes_44 (fun c_44 => ?_) (fun c_44 => ?_)
    · refine x_iload C 0 rfl dX12_oneComes_108 ?_
      exact hret _ _ _ _ dX12_oneComes_110 (nar_z (by omega)) (Or.inr ⟨(by omega), (by omega), rfl⟩)
    · refine x_aload_n C 1 rfl rfl dX12_oneComes_47 ?_
      refine x_get C in_X12_oneComes_X12 0 rfl rfl 2 (by decide) (List.mem_of_getElem? (i := 3) rfl) rfl (v := .ref (a 2)) rfl dX12_oneComes_48 ?_
      refine x_aload_n C 1 rfl rfl dX12_oneComes_51 ?_
      refine x_get C in_X12_oneComes_X12 0 rfl rfl 1 (by decide) (List.mem_of_getElem? (i := 2) rfl) rfl (v := .int (iN (mn))) rfl dX12_oneComes_52 ?_
      refine x_iload_n C 2 rfl rfl dX12_oneComes_55 ?_
      refine x_iastore C (f := mkd) 2 rfl (by omega) rfl (WM X.γ a mh mn (upz mkd mn k) mfg mag mpo mwy mdy mhw mkk mkf mrs mrm mrw mth maw mgr mwa mre mpl mib msn mpn mlo mtl mke mim mhi mp0 mtk mki mun msd mbe) rfl dX12_oneComes_56 ?_
      refine x_aload_n C 1 rfl rfl dX12_oneComes_57 ?_
      refine x_get C in_X12_oneComes_X12 0 rfl rfl 3 (by decide) (List.mem_of_getElem? (i := 4) rfl) rfl (v := .ref (a 3)) rfl dX12_oneComes_58 ?_
      refine x_aload_n C 1 rfl rfl dX12_oneComes_61 ?_
      refine x_get C in_X12_oneComes_X12 0 rfl rfl 1 (by decide) (List.mem_of_getElem? (i := 2) rfl) rfl (v := .int (iN (mn))) rfl dX12_oneComes_62 ?_
      refine x_iload_n C 3 rfl rfl dX12_oneComes_65 ?_
      refine x_iastore C (f := mfg) 3 rfl (by omega) rfl (WM X.γ a mh mn (upz mkd mn k) (upz mfg mn fg) mag mpo mwy mdy mhw mkk mkf mrs mrm mrw mth maw mgr mwa mre mpl mib msn mpn mlo mtl mke mim mhi mp0 mtk mki mun msd mbe) rfl dX12_oneComes_66 ?_
      refine x_aload_n C 1 rfl rfl dX12_oneComes_67 ?_
      refine x_get C in_X12_oneComes_X12 0 rfl rfl 4 (by decide) (List.mem_of_getElem? (i := 5) rfl) rfl (v := .ref (a 4)) rfl dX12_oneComes_68 ?_
      refine x_aload_n C 1 rfl rfl dX12_oneComes_71 ?_
      refine x_get C in_X12_oneComes_X12 0 rfl rfl 1 (by decide) (List.mem_of_getElem? (i := 2) rfl) rfl (v := .int (iN (mn))) rfl dX12_oneComes_72 ?_
      refine x_iload_n C 4 rfl rfl dX12_oneComes_75 ?_
      refine x_iastore C (f := mag) 4 rfl (by omega) rfl (WM X.γ a mh mn (upz mkd mn k) (upz mfg mn fg) (upz mag mn ag) mpo mwy mdy mhw mkk mkf mrs mrm mrw mth maw mgr mwa mre mpl mib msn mpn mlo mtl mke mim mhi mp0 mtk mki mun msd mbe) rfl dX12_oneComes_76 ?_
      refine x_aload_n C 1 rfl rfl dX12_oneComes_77 ?_
      refine x_get C in_X12_oneComes_X12 0 rfl rfl 5 (by decide) (List.mem_of_getElem? (i := 6) rfl) rfl (v := .ref (a 5)) rfl dX12_oneComes_78 ?_
      refine x_aload_n C 1 rfl rfl dX12_oneComes_81 ?_
      refine x_get C in_X12_oneComes_X12 0 rfl rfl 1 (by decide) (List.mem_of_getElem? (i := 2) rfl) rfl (v := .int (iN (mn))) rfl dX12_oneComes_82 ?_
      refine x_iload C 5 rfl dX12_oneComes_85 ?_
      refine x_iastore C (f := mpo) 5 rfl (by omega) rfl (WM X.γ a mh mn (upz mkd mn k) (upz mfg mn fg) (upz mag mn ag) (upz mpo mn cell) mwy mdy mhw mkk mkf mrs mrm mrw mth maw mgr mwa mre mpl mib msn mpn mlo mtl mke mim mhi mp0 mtk mki mun msd mbe) rfl dX12_oneComes_87 ?_
      refine x_aload_n C 1 rfl rfl dX12_oneComes_88 ?_
      refine x_get C in_X12_oneComes_X12 0 rfl rfl 6 (by decide) (List.mem_of_getElem? (i := 7) rfl) rfl (v := .ref (a 6)) rfl dX12_oneComes_89 ?_
      refine x_aload_n C 1 rfl rfl dX12_oneComes_92 ?_
      refine x_get C in_X12_oneComes_X12 0 rfl rfl 1 (by decide) (List.mem_of_getElem? (i := 2) rfl) rfl (v := .int (iN (mn))) rfl dX12_oneComes_93 ?_
      refine x_iconst (v := 0) C dX12_oneComes_96 ?_
      refine x_iastore C (f := mwy) 6 rfl (by omega) rfl (WM X.γ a mh mn (upz mkd mn k) (upz mfg mn fg) (upz mag mn ag) (upz mpo mn cell) (upz mwy mn 0) mdy mhw mkk mkf mrs mrm mrw mth maw mgr mwa mre mpl mib msn mpn mlo mtl mke mim mhi mp0 mtk mki mun msd mbe) rfl dX12_oneComes_97 ?_
      refine x_aload_n C 1 rfl rfl dX12_oneComes_98 ?_
      refine x_dup C rfl dX12_oneComes_99 ?_
      refine x_get C in_X12_oneComes_X12 0 rfl rfl 1 (by decide) (List.mem_of_getElem? (i := 2) rfl) rfl (v := .int (iN (mn))) rfl dX12_oneComes_100 ?_
      refine x_iconst (v := 0) C dX12_oneComes_103 ?_
      refine x_iadd C dX12_oneComes_104 ?_
      refine x_put C in_X12_oneComes_X12 tyX12 tyX12_ok nmX12 0 rfl rfl 1 (by decide) (List.mem_of_getElem? (i := 2) rfl) rfl rfl rfl rfl rfl (Nat.le_of_ble_eq_true rfl) (WM X.γ a mh (mn + 1) (upz mkd mn k) (upz mfg mn fg) (upz mag mn ag) (upz mpo mn cell) (upz mwy mn 0) mdy mhw mkk mkf mrs mrm mrw mth maw mgr mwa mre mpl mib msn mpn mlo mtl mke mim mhi mp0 mtk mki mun msd mbe) rfl dX12_oneComes_105 ?_
      refine x_iload C 0 rfl dX12_oneComes_108 ?_
      exact hret _ _ _ _ dX12_oneComes_110 (nar_z (by omega)) (Or.inl ⟨(by omega), (by omega), rfl⟩)
  refine x_icmp_ge C 39 (by decide) (by omega) dX12_oneComes_3 (fun c_3 => ?_) (fun c_3 => ?_)
  · refine x_iconst (v := 0) C dX12_oneComes_39 ?_
    exact LP40 _ (by omega)
  · refine x_iload_n C 3 rfl rfl dX12_oneComes_6 ?_
    refine x_i2l C (by omega) dX12_oneComes_7 ?_
    refine x_lconst C 0 rfl dX12_oneComes_8 ?_
    refine x_ldc2 C (120) (List.mem_of_getElem? (i := 1) rfl) (by decide) dX12_oneComes_9 ?_
    refine x_S_I C (As := [.long (jN (ag)), .long (jN (0)), .long (jN (120))]) (rest := []) 3 gX12_oneComes_X12_in (c_X12_in _ _ (WM X.γ a mh mn mkd mfg mag mpo mwy mdy mhw mkk mkf mrs mrm mrw mth maw mgr mwa mre mpl mib msn mpn mlo mtl mke mim mhi mp0 mtk mki mun msd mbe) (ag) (0) (120) (by omega) (by omega) (by omega)) rfl ok_X12_in rfl rfl rfl rfl dX12_oneComes_12 (fun r w1 hp => ?_)
    obtain ⟨rfl, rfl⟩ := hp
    refine x_ifeq_bz C 39 (by decide) dX12_oneComes_15 (fun c_15 => ?_) (fun c_15 => ?_)
    · refine x_iconst (v := 0) C dX12_oneComes_39 ?_
      exact LP40 _ (by omega)
    · refine x_iload C 4 rfl dX12_oneComes_18 ?_
      refine x_S_I C (As := [.int (iN (cell))]) (rest := []) 1 gX12_oneComes_X12_isCell (c_X12_isCell _ _ (WM X.γ a mh mn mkd mfg mag mpo mwy mdy mhw mkk mkf mrs mrm mrw mth maw mgr mwa mre mpl mib msn mpn mlo mtl mke mim mhi mp0 mtk mki mun msd mbe) (cell) (by omega)) rfl ok_X12_isCell rfl rfl rfl rfl dX12_oneComes_20 (fun r w1 hp => ?_)
      obtain ⟨rfl, rfl⟩ := hp
      refine x_ifeq_bz C 39 (by decide) dX12_oneComes_23 (fun c_23 => ?_) (fun c_23 => ?_)
      · refine x_iconst (v := 0) C dX12_oneComes_39 ?_
        exact LP40 _ (by omega)
      · refine x_aload_n C 0 rfl rfl dX12_oneComes_26 ?_
        refine x_get C in_X12_oneComes_X12 0 rfl rfl 1 (by decide) (List.mem_of_getElem? (i := 2) rfl) rfl (v := .int (iN (mn))) rfl dX12_oneComes_27 ?_
        refine x_bipush C (6) (by decide) dX12_oneComes_30 ?_
        refine x_icmp_ge C 39 (by decide) (by omega) dX12_oneComes_32 (fun c_32 => ?_) (fun c_32 => ?_)
        · refine x_iconst (v := 0) C dX12_oneComes_39 ?_
          exact LP40 _ (by omega)
        · refine x_iconst (v := 0) C dX12_oneComes_35 ?_
          refine x_goto C 40 (by decide) dX12_oneComes_36 ?_
          exact LP40 _ (by omega)
theorem in_X12_daysCome_X12 : ∀ w ∈ u_ws RX12 TX12 34, w ∈ wsX12_daysCome := by decide +kernel
theorem ok_X12_daysCome : okY yX12_daysCome 1 := by decide +kernel
def rmX12_daysCome : Room := { frames := 7, cells := 0, slots := 0, locals := 155 }
set_option maxRecDepth 100000 in
set_option maxHeartbeats 400000 in
theorem c_X12_daysCome (l : Launch) (γ : GX) (a : Nat → Nat) (mh : Int → Int) (mn : Int) (mkd : Int → Int) (mfg : Int → Int) (mag : Int → Int) (mpo : Int → Int) (mwy : Int → Int) (mdy : Int) (mhw : Int → Int) (mkk : Int → Int) (mkf : Int → Int) (mrs : Int → Int) (mrm : Int → Int) (mrw : Int → Int) (mth : Int) (mgr : Int → Int) (mwa : Int → Int) (mre : Int) (mpl : Int) (mib : Int) (msn : Int) (mpn : Int → Int) (mlo : Int → Int) (mtl : Int → Int) (mke : Int → Int) (mim : Int → Int) (mhi : Int) (mp0 : Int) (mtk : Int) (mki : Value) (mun : Int → Int) (msd : Int) (mbe : Int → Int) (hM : WFm mn mh mkd mfg mag mpo mwy mhw mkk mkf mrs mrm mrw) (m : Int) (h0_ : -2147483648 ≤ m ∧ m < 2147483648) (h1_ : 0 ≤ mdy ∧ mdy ≤ 999) : MI l γ yX12_daysCome wsX12_daysCome rmX12_daysCome [.ref (a 0), .int (iN (m))] (WM γ a mh mn mkd mfg mag mpo mwy mdy mhw mkk mkf mrs mrm mrw mth 0 mgr mwa mre mpl mib msn mpn mlo mtl mke mim mhi mp0 mtk mki mun msd mbe) (fun r_ w_ => (((1 ≤ m ∧ m ≤ 60) ∧ mdy + m ≤ 999) ∧ r_ = 1 ∧ ∃ G, w_ = (WM γ a mh mn mkd mfg mag (Ct.po (Ct.days (Lc mh mn mdy mkd mfg mag mpo mwy) m.toNat)) (Ct.wy (Ct.days (Lc mh mn mdy mkd mfg mag mpo mwy) m.toNat)) (Ct.dy (Ct.days (Lc mh mn mdy mkd mfg mag mpo mwy) m.toNat)) mhw mkk mkf mrs mrm mrw mth 0 G mwa mre mpl mib msn mpn mlo mtl mke mim mhi mp0 mtk mki mun msd mbe)) ∨ (¬ ((1 ≤ m ∧ m ≤ 60) ∧ mdy + m ≤ 999) ∧ r_ = 0 ∧ w_ = (WM γ a mh mn mkd mfg mag mpo mwy mdy mhw mkk mkf mrs mrm mrw mth 0 mgr mwa mre mpl mib msn mpn mlo mtl mke mim mhi mp0 mtk mki mun msd mbe))) 0 0 := by
  refine MI.of (cc := cX12_daysCome) (maxL := 3) (rt := .boolean) RX12 rfl (by decide +kernel) rfl (Nat.le_of_ble_eq_true rfl) ?_
  intro X C hγ hl hnm hret
  subst hγ
  have hMn := WFm.n hM
  show Wx X 0 0 (WM X.γ a mh mn mkd mfg mag mpo mwy mdy mhw mkk mkf mrs mrm mrw mth 0 mgr mwa mre mpl mib msn mpn mlo mtl mke mim mhi mp0 mtk mki mun msd mbe) 0 [(0, .ref (a 0)), (1, .int (iN (m)))] []
  refine x_iload_n C 1 rfl rfl dX12_daysCome_0 ?_
  refine x_i2l C (by omega) dX12_daysCome_1 ?_
  refine x_lconst C 1 rfl dX12_daysCome_2 ?_
  refine x_ldc2 C (60) (List.mem_of_getElem? (i := 1) rfl) (by decide) dX12_daysCome_3 ?_
  refine x_S_I C (As := [.long (jN (m)), .long (jN (1)), .long (jN (60))]) (rest := []) 3 gX12_daysCome_X12_in (c_X12_in _ _ (WM X.γ a mh mn mkd mfg mag mpo mwy mdy mhw mkk mkf mrs mrm mrw mth 0 mgr mwa mre mpl mib msn mpn mlo mtl mke mim mhi mp0 mtk mki mun msd mbe) (m) (1) (60) (by omega) (by omega) (by omega)) rfl ok_X12_in rfl rfl rfl rfl dX12_daysCome_6 (fun r w1 hp => ?_)
  obtain ⟨rfl, rfl⟩ := hp
  have LP29 : ∀ (s0_29 : Int), (s0_29 = (if (1 ≤ m ∧ m ≤ 60) ∧ mdy + m ≤ 999 then 1 else 0)) → Wx X 0 0 (WM X.γ a mh mn mkd mfg mag mpo mwy mdy mhw mkk mkf mrs mrm mrw mth 0 mgr mwa mre mpl mib msn mpn mlo mtl mke mim mhi mp0 mtk mki mun msd mbe) 29 [(0, .ref (a 0)), (1, .int (iN (m)))] [.int (iN (s0_29))] := by
    intro s0_29 es0_29
    refine x_istore_n C [(2, .int (iN (s0_29))), (0, .ref (a 0)), (1, .int (iN (m)))] rfl (by decide) rfl dX12_daysCome_29 ?_
    refine x_iload_n C 0 rfl rfl dX12_daysCome_30 ?_
    refine x_if_eq C 39 (by decide) (by omega) dX12_daysCome_31 (fun c_31 => ?_) (fun c_31 => ?_)
    · refine x_iload_n C 0 rfl rfl dX12_daysCome_39 ?_
      exact hret _ _ _ _ dX12_daysCome_40 (nar_z (by omega)) (Or.inr ⟨(by omega), (by omega), rfl⟩)
    · refine x_aload_n C 1 rfl rfl dX12_daysCome_34 ?_
      refine x_iload_n C 2 rfl rfl dX12_daysCome_35 ?_
      refine x_V_V C (As := [.int (iN (m))]) (rest := []) 1 0 rfl rfl gX12_daysCome_X12_goDays rfl (c_X12_goDays _ _ a mh mn mkd mfg mag mpo mwy mdy mhw mkk mkf mrs mrm mrw mth mgr mwa mre mpl mib msn mpn mlo mtl mke mim mhi mp0 mtk mki mun msd mbe hM (m) (by omega)) rfl ok_X12_goDays rfl rfl rfl rfl dX12_daysCome_36 (fun w1 hp => ?_)
      obtain ⟨Gb42, rfl⟩ := hp
      refine x_iload_n C 0 rfl rfl dX12_daysCome_39 ?_
      exact hret _ _ _ _ dX12_daysCome_40 (nar_z (by omega)) (Or.inl ⟨(by omega), (by omega), _, rfl⟩)
  refine x_ifeq_bz C 28 (by decide) dX12_daysCome_9 (fun c_9 => ?_) (fun c_9 => ?_)
  · refine x_iconst (v := 0) C dX12_daysCome_28 ?_
    exact LP29 _ (by omega)
  · refine x_aload_n C 0 rfl rfl dX12_daysCome_12 ?_
    refine x_get C in_X12_daysCome_X12 0 rfl rfl 7 (by decide) (List.mem_of_getElem? (i := 2) rfl) rfl (v := .int (iN (mdy))) rfl dX12_daysCome_13 ?_
    refine x_iload_n C 1 rfl rfl dX12_daysCome_16 ?_
    refine x_iadd C dX12_daysCome_17 ?_
    refine x_sipush C (999) (by decide) dX12_daysCome_18 ?_
    refine x_icmp_gt C 28 (by decide) (by omega) dX12_daysCome_21 (fun c_21 => ?_) (fun c_21 => ?_)
    · refine x_iconst (v := 0) C dX12_daysCome_28 ?_
      exact LP29 _ (by omega)
    · refine x_iconst (v := 0) C dX12_daysCome_24 ?_
      refine x_goto C 29 (by decide) dX12_daysCome_25 ?_
      exact LP29 _ (by omega)
theorem in_X12_wrongKept_X12 : ∀ w ∈ u_ws RX12 TX12 34, w ∈ wsX12_wrongKept := by decide +kernel
theorem ok_X12_wrongKept : okY yX12_wrongKept 1 := by decide +kernel
def rmX12_wrongKept : Room := { frames := 1, cells := 0, slots := 0, locals := 25 }
set_option maxRecDepth 100000 in
set_option maxHeartbeats 400000 in
theorem c_X12_wrongKept (l : Launch) (γ : GX) (a : Nat → Nat) (mh : Int → Int) (mn : Int) (mkd : Int → Int) (mfg : Int → Int) (mag : Int → Int) (mpo : Int → Int) (mwy : Int → Int) (mdy : Int) (mhw : Int → Int) (mkk : Int → Int) (mkf : Int → Int) (mrs : Int → Int) (mrm : Int → Int) (mrw : Int → Int) (mth : Int) (maw : Int) (mgr : Int → Int) (mwa : Int → Int) (mre : Int) (mpl : Int) (mib : Int) (msn : Int) (mpn : Int → Int) (mlo : Int → Int) (mtl : Int → Int) (mke : Int → Int) (mim : Int → Int) (mhi : Int) (mp0 : Int) (mtk : Int) (mki : Value) (mun : Int → Int) (msd : Int) (mbe : Int → Int) (hM : WFm mn mh mkd mfg mag mpo mwy mhw mkk mkf mrs mrm mrw) (d : Int) (h0_ : -2147483648 ≤ d ∧ d < 2147483648) : MI l γ yX12_wrongKept wsX12_wrongKept rmX12_wrongKept [.ref (a 0), .int (iN (d))] (WM γ a mh mn mkd mfg mag mpo mwy mdy mhw mkk mkf mrs mrm mrw mth maw mgr mwa mre mpl mib msn mpn mlo mtl mke mim mhi mp0 mtk mki mun msd mbe) (fun r_ w_ => r_ = (if 0 ≤ d ∧ d ≤ 7 then (if mhw d = 0 then -11 else if mhw d = 1 then 0 else -12) else -1) ∧ w_ = (WM γ a mh mn mkd mfg mag mpo mwy mdy mhw mkk mkf mrs mrm mrw mth maw mgr mwa mre mpl mib msn mpn mlo mtl mke mim mhi mp0 mtk mki mun msd mbe)) 0 0 := by
  refine MI.of (cc := cX12_wrongKept) (maxL := 2) (rt := .int) RX12 rfl (by decide +kernel) rfl (Nat.le_of_ble_eq_true rfl) ?_
  intro X C hγ hl hnm hret
  subst hγ
  have hMn := WFm.n hM
  show Wx X 0 0 (WM X.γ a mh mn mkd mfg mag mpo mwy mdy mhw mkk mkf mrs mrm mrw mth maw mgr mwa mre mpl mib msn mpn mlo mtl mke mim mhi mp0 mtk mki mun msd mbe) 0 [(0, .ref (a 0)), (1, .int (iN (d)))] []
  refine x_iload_n C 1 rfl rfl dX12_wrongKept_0 ?_
  refine x_i2l C (by omega) dX12_wrongKept_1 ?_
  refine x_lconst C 0 rfl dX12_wrongKept_2 ?_
  refine x_ldc2 C (7) (List.mem_of_getElem? (i := 1) rfl) (by decide) dX12_wrongKept_3 ?_
  refine x_S_I C (As := [.long (jN (d)), .long (jN (0)), .long (jN (7))]) (rest := []) 3 gX12_wrongKept_X12_in (c_X12_in _ _ (WM X.γ a mh mn mkd mfg mag mpo mwy mdy mhw mkk mkf mrs mrm mrw mth maw mgr mwa mre mpl mib msn mpn mlo mtl mke mim mhi mp0 mtk mki mun msd mbe) (d) (0) (7) (by omega) (by omega) (by omega)) rfl ok_X12_in rfl rfl rfl rfl dX12_wrongKept_6 (fun r w1 hp => ?_)
  obtain ⟨rfl, rfl⟩ := hp
  refine x_ifne_bz C 16 (by decide) dX12_wrongKept_9 (fun c_9 => ?_) (fun c_9 => ?_)
  · refine x_aload_n C 0 rfl rfl dX12_wrongKept_16 ?_
    refine x_get C in_X12_wrongKept_X12 0 rfl rfl 8 (by decide) (List.mem_of_getElem? (i := 2) rfl) rfl (v := .ref (a 7)) rfl dX12_wrongKept_17 ?_
    refine x_iload_n C 1 rfl rfl dX12_wrongKept_20 ?_
    refine x_iaload C (f := mhw) 7 rfl (by omega) rfl dX12_wrongKept_21 ?_
    have b43 := WFm.hw hM (d)
    refine x_if_ne C 30 (by decide) (by omega) dX12_wrongKept_22 (fun c_22 => ?_) (fun c_22 => ?_)
    · refine x_aload_n C 0 rfl rfl dX12_wrongKept_30 ?_
      refine x_get C in_X12_wrongKept_X12 0 rfl rfl 8 (by decide) (List.mem_of_getElem? (i := 2) rfl) rfl (v := .ref (a 7)) rfl dX12_wrongKept_31 ?_
      refine x_iload_n C 1 rfl rfl dX12_wrongKept_34 ?_
      refine x_iaload C (f := mhw) 7 rfl (by omega) rfl dX12_wrongKept_35 ?_
      have b44 := WFm.hw hM (d)
      refine x_iconst (v := 0) C dX12_wrongKept_36 ?_
      refine x_icmp_eq C 45 (by decide) (by omega) dX12_wrongKept_37 (fun c_37 => ?_) (fun c_37 => ?_)
      · refine x_iconst (v := 0) C dX12_wrongKept_45 ?_
        exact hret _ _ _ _ dX12_wrongKept_46 rfl ⟨(by omega), rfl⟩
      · refine x_bipush C (-12) (by decide) dX12_wrongKept_40 ?_
        refine x_goto C 46 (by decide) dX12_wrongKept_42 ?_
        exact hret _ _ _ _ dX12_wrongKept_46 rfl ⟨(by omega), rfl⟩
    · refine x_bipush C (-11) (by decide) dX12_wrongKept_25 ?_
      refine x_goto C 46 (by decide) dX12_wrongKept_27 ?_
      exact hret _ _ _ _ dX12_wrongKept_46 rfl ⟨(by omega), rfl⟩
  · refine x_iconst (v := 0) C dX12_wrongKept_12 ?_
    refine x_goto C 46 (by decide) dX12_wrongKept_13 ?_
    exact hret _ _ _ _ dX12_wrongKept_46 rfl ⟨(by omega), rfl⟩
theorem in_X12_wrongRow_X12 : ∀ w ∈ u_ws RX12 TX12 34, w ∈ wsX12_wrongRow := by decide +kernel
theorem ok_X12_wrongRow : okY yX12_wrongRow 1 := by decide +kernel
def rmX12_wrongRow : Room := { frames := 1, cells := 0, slots := 0, locals := 25 }
set_option maxRecDepth 100000 in
set_option maxHeartbeats 400000 in
theorem c_X12_wrongRow (l : Launch) (γ : GX) (a : Nat → Nat) (mh : Int → Int) (mn : Int) (mkd : Int → Int) (mfg : Int → Int) (mag : Int → Int) (mpo : Int → Int) (mwy : Int → Int) (mdy : Int) (mhw : Int → Int) (mkk : Int → Int) (mkf : Int → Int) (mrs : Int → Int) (mrm : Int → Int) (mrw : Int → Int) (mth : Int) (maw : Int) (mgr : Int → Int) (mwa : Int → Int) (mre : Int) (mpl : Int) (mib : Int) (msn : Int) (mpn : Int → Int) (mlo : Int → Int) (mtl : Int → Int) (mke : Int → Int) (mim : Int → Int) (mhi : Int) (mp0 : Int) (mtk : Int) (mki : Value) (mun : Int → Int) (msd : Int) (mbe : Int → Int) (hM : WFm mn mh mkd mfg mag mpo mwy mhw mkk mkf mrs mrm mrw) (d : Int) (h0_ : -2147483648 ≤ d ∧ d < 2147483648) : MI l γ yX12_wrongRow wsX12_wrongRow rmX12_wrongRow [.ref (a 0), .int (iN (d))] (WM γ a mh mn mkd mfg mag mpo mwy mdy mhw mkk mkf mrs mrm mrw mth maw mgr mwa mre mpl mib msn mpn mlo mtl mke mim mhi mp0 mtk mki mun msd mbe) (fun r_ w_ => r_ = (if 0 ≤ d ∧ d ≤ 7 then (if mhw d = 0 then -11 else if mhw d = 2 then 0 else -12) else -1) ∧ w_ = (WM γ a mh mn mkd mfg mag mpo mwy mdy mhw mkk mkf mrs mrm mrw mth maw mgr mwa mre mpl mib msn mpn mlo mtl mke mim mhi mp0 mtk mki mun msd mbe)) 0 0 := by
  refine MI.of (cc := cX12_wrongRow) (maxL := 2) (rt := .int) RX12 rfl (by decide +kernel) rfl (Nat.le_of_ble_eq_true rfl) ?_
  intro X C hγ hl hnm hret
  subst hγ
  have hMn := WFm.n hM
  show Wx X 0 0 (WM X.γ a mh mn mkd mfg mag mpo mwy mdy mhw mkk mkf mrs mrm mrw mth maw mgr mwa mre mpl mib msn mpn mlo mtl mke mim mhi mp0 mtk mki mun msd mbe) 0 [(0, .ref (a 0)), (1, .int (iN (d)))] []
  refine x_iload_n C 1 rfl rfl dX12_wrongRow_0 ?_
  refine x_i2l C (by omega) dX12_wrongRow_1 ?_
  refine x_lconst C 0 rfl dX12_wrongRow_2 ?_
  refine x_ldc2 C (7) (List.mem_of_getElem? (i := 1) rfl) (by decide) dX12_wrongRow_3 ?_
  refine x_S_I C (As := [.long (jN (d)), .long (jN (0)), .long (jN (7))]) (rest := []) 3 gX12_wrongRow_X12_in (c_X12_in _ _ (WM X.γ a mh mn mkd mfg mag mpo mwy mdy mhw mkk mkf mrs mrm mrw mth maw mgr mwa mre mpl mib msn mpn mlo mtl mke mim mhi mp0 mtk mki mun msd mbe) (d) (0) (7) (by omega) (by omega) (by omega)) rfl ok_X12_in rfl rfl rfl rfl dX12_wrongRow_6 (fun r w1 hp => ?_)
  obtain ⟨rfl, rfl⟩ := hp
  refine x_ifne_bz C 16 (by decide) dX12_wrongRow_9 (fun c_9 => ?_) (fun c_9 => ?_)
  · refine x_aload_n C 0 rfl rfl dX12_wrongRow_16 ?_
    refine x_get C in_X12_wrongRow_X12 0 rfl rfl 8 (by decide) (List.mem_of_getElem? (i := 2) rfl) rfl (v := .ref (a 7)) rfl dX12_wrongRow_17 ?_
    refine x_iload_n C 1 rfl rfl dX12_wrongRow_20 ?_
    refine x_iaload C (f := mhw) 7 rfl (by omega) rfl dX12_wrongRow_21 ?_
    have b45 := WFm.hw hM (d)
    refine x_if_ne C 30 (by decide) (by omega) dX12_wrongRow_22 (fun c_22 => ?_) (fun c_22 => ?_)
    · refine x_aload_n C 0 rfl rfl dX12_wrongRow_30 ?_
      refine x_get C in_X12_wrongRow_X12 0 rfl rfl 8 (by decide) (List.mem_of_getElem? (i := 2) rfl) rfl (v := .ref (a 7)) rfl dX12_wrongRow_31 ?_
      refine x_iload_n C 1 rfl rfl dX12_wrongRow_34 ?_
      refine x_iaload C (f := mhw) 7 rfl (by omega) rfl dX12_wrongRow_35 ?_
      have b46 := WFm.hw hM (d)
      refine x_iconst (v := 0) C dX12_wrongRow_36 ?_
      refine x_icmp_eq C 45 (by decide) (by omega) dX12_wrongRow_37 (fun c_37 => ?_) (fun c_37 => ?_)
      · refine x_iconst (v := 0) C dX12_wrongRow_45 ?_
        exact hret _ _ _ _ dX12_wrongRow_46 rfl ⟨(by omega), rfl⟩
      · refine x_bipush C (-12) (by decide) dX12_wrongRow_40 ?_
        refine x_goto C 46 (by decide) dX12_wrongRow_42 ?_
        exact hret _ _ _ _ dX12_wrongRow_46 rfl ⟨(by omega), rfl⟩
    · refine x_bipush C (-11) (by decide) dX12_wrongRow_25 ?_
      refine x_goto C 46 (by decide) dX12_wrongRow_27 ?_
      exact hret _ _ _ _ dX12_wrongRow_46 rfl ⟨(by omega), rfl⟩
  · refine x_iconst (v := 0) C dX12_wrongRow_12 ?_
    refine x_goto C 46 (by decide) dX12_wrongRow_13 ?_
    exact hret _ _ _ _ dX12_wrongRow_46 rfl ⟨(by omega), rfl⟩
theorem in_X12_skipped_X12 : ∀ w ∈ u_ws RX12 TX12 34, w ∈ wsX12_skipped := by decide +kernel
theorem ok_X12_skipped : okY yX12_skipped 1 := by decide +kernel
def rmX12_skipped : Room := { frames := 0, cells := 0, slots := 0, locals := 0 }
set_option maxRecDepth 100000 in
set_option maxHeartbeats 400000 in
theorem c_X12_skipped (l : Launch) (γ : GX) (a : Nat → Nat) (mh : Int → Int) (mn : Int) (mkd : Int → Int) (mfg : Int → Int) (mag : Int → Int) (mpo : Int → Int) (mwy : Int → Int) (mdy : Int) (mhw : Int → Int) (mkk : Int → Int) (mkf : Int → Int) (mrs : Int → Int) (mrm : Int → Int) (mrw : Int → Int) (mth : Int) (maw : Int) (mgr : Int → Int) (mwa : Int → Int) (mre : Int) (mpl : Int) (mib : Int) (msn : Int) (mpn : Int → Int) (mlo : Int → Int) (mtl : Int → Int) (mke : Int → Int) (mim : Int → Int) (mhi : Int) (mp0 : Int) (mtk : Int) (mki : Value) (mun : Int → Int) (msd : Int) (mbe : Int → Int) (hM : WFm mn mh mkd mfg mag mpo mwy mhw mkk mkf mrs mrm mrw) (d : Int) (h0_ : 0 ≤ d ∧ d ≤ 7) : MJ l γ yX12_skipped wsX12_skipped rmX12_skipped [.ref (a 0), .int (iN (d))] (WM γ a mh mn mkd mfg mag mpo mwy mdy mhw mkk mkf mrs mrm mrw mth maw mgr mwa mre mpl mib msn mpn mlo mtl mke mim mhi mp0 mtk mki mun msd mbe) (fun r_ w_ => r_ = lsz (mrs d) ∧ w_ = (WM γ a mh mn mkd mfg mag mpo mwy mdy mhw mkk mkf mrs mrm mrw mth maw mgr mwa mre mpl mib msn mpn mlo mtl mke mim mhi mp0 mtk mki mun msd mbe)) 0 0 := by
  refine MJ.of (cc := cX12_skipped) (maxL := 2) RX12 rfl (by decide +kernel) rfl (Nat.le_of_ble_eq_true rfl) ?_
  intro X C hγ hl hnm hret
  subst hγ
  have hMn := WFm.n hM
  show Wx X 0 0 (WM X.γ a mh mn mkd mfg mag mpo mwy mdy mhw mkk mkf mrs mrm mrw mth maw mgr mwa mre mpl mib msn mpn mlo mtl mke mim mhi mp0 mtk mki mun msd mbe) 0 [(0, .ref (a 0)), (1, .int (iN (d)))] []
  refine x_aload_n C 0 rfl rfl dX12_skipped_0 ?_
  refine x_get C in_X12_skipped_X12 0 rfl rfl 11 (by decide) (List.mem_of_getElem? (i := 1) rfl) rfl (v := .ref (a 10)) rfl dX12_skipped_1 ?_
  refine x_iload_n C 1 rfl rfl dX12_skipped_4 ?_
  refine x_iaload C (f := mrs) 10 rfl (by omega) rfl dX12_skipped_5 ?_
  have b47 := WFm.rs hM (d)
  refine x_if_ne C 15 (by decide) (by omega) dX12_skipped_6 (fun c_6 => ?_) (fun c_6 => ?_)
  · refine x_aload_n C 0 rfl rfl dX12_skipped_15 ?_
    refine x_get C in_X12_skipped_X12 0 rfl rfl 11 (by decide) (List.mem_of_getElem? (i := 1) rfl) rfl (v := .ref (a 10)) rfl dX12_skipped_16 ?_
    refine x_iload_n C 1 rfl rfl dX12_skipped_19 ?_
    refine x_iaload C (f := mrs) 10 rfl (by omega) rfl dX12_skipped_20 ?_
    have b48 := WFm.rs hM (d)
    refine x_iconst (v := 0) C dX12_skipped_21 ?_
    refine x_icmp_ne C 31 (by decide) (by omega) dX12_skipped_22 (fun c_22 => ?_) (fun c_22 => ?_)
    · refine x_ldc2 C (-2147483648) (List.mem_of_getElem? (i := 4) rfl) (by decide) dX12_skipped_31 ?_
      exact hret _ _ _ _ dX12_skipped_34 ⟨(by unfold lsz; omega), rfl⟩
    · refine x_ldc2 C (-32768) (List.mem_of_getElem? (i := 3) rfl) (by decide) dX12_skipped_25 ?_
      refine x_goto C 34 (by decide) dX12_skipped_28 ?_
      exact hret _ _ _ _ dX12_skipped_34 ⟨(by unfold lsz; omega), rfl⟩
  · refine x_ldc2 C (-128) (List.mem_of_getElem? (i := 2) rfl) (by decide) dX12_skipped_9 ?_
    refine x_goto C 34 (by decide) dX12_skipped_12 ?_
    exact hret _ _ _ _ dX12_skipped_34 ⟨(by unfold lsz; omega), rfl⟩
theorem ok_X12_divisor : okY yX12_divisor 2 := by decide +kernel
def rmX12_divisor : Room := { frames := 0, cells := 0, slots := 0, locals := 0 }
set_option maxRecDepth 100000 in
set_option maxHeartbeats 400000 in
theorem c_X12_divisor (l : Launch) (γ : GX) (w0 : va_W) (a : Int) (b : Int) (h0_ : 0 ≤ a ∧ a < 9223372036854775808) (h1_ : 0 ≤ b ∧ b < 9223372036854775808) : MJ l γ yX12_divisor wsX12_divisor rmX12_divisor [.long (jN (a)), .long (jN (b))] w0 (fun r_ w_ => r_ = ((Nat.gcd a.toNat b.toNat : Int)) ∧ w_ = w0) 0 0 := by
  refine MJ.of (cc := cX12_divisor) (maxL := 10) RX12 rfl (by decide +kernel) rfl (Nat.le_of_ble_eq_true rfl) ?_
  intro X C hγ hl hnm hret
  subst hγ
  show Wx X 0 0 w0 0 [(0, .long (jN (a))), (2, .long (jN (b)))] []
  refine x_lload_n C 0 rfl rfl dX12_divisor_0 ?_
  refine x_lstore C [(4, .long (jN (a))), (0, .long (jN (a))), (2, .long (jN (b)))] (by decide) rfl dX12_divisor_1 ?_
  refine x_lload_n C 2 rfl rfl dX12_divisor_3 ?_
  refine x_lstore C [(6, .long (jN (b))), (4, .long (jN (a))), (0, .long (jN (a))), (2, .long (jN (b)))] (by decide) rfl dX12_divisor_4 ?_
  have LP6 : ∀ (f : Nat) (x : Nat) (y : Nat) (v6_6 : Int) (v4_6 : Int), (y < f) → (x < 9223372036854775808) → (y < 9223372036854775808) → (Nat.gcd x y = Nat.gcd a.toNat b.toNat) → (((y : Int)) = v6_6) → (((x : Int)) = v4_6) → Wx X 0 0 w0 6 [(6, .long (jN (v6_6))), (4, .long (jN (v4_6))), (0, .long (jN (a))), (2, .long (jN (b)))] [] := by
    intro f
    induction f with
    | zero => intro x y v6_6 v4_6 hf; exact absurd hf (Nat.not_lt_zero _)
    | succ f ih6 =>
      intro x y v6_6 v4_6 hf hx hy hgc e6_6 e4_6
      subst e4_6
      subst e6_6
      refine x_lload C 0 rfl dX12_divisor_6 ?_
      refine x_lconst C 0 rfl dX12_divisor_8 ?_
      refine x_lcmp_eq C 31 (by decide) (by omega) dX12_divisor_9 dX12_divisor_10 (fun c_9 => ?_) (fun c_9 => ?_)
      · refine x_lload C 1 rfl dX12_divisor_31 ?_
        exact hret _ _ _ _ dX12_divisor_33 ⟨(by have hz : y = 0 := (by omega); rw [← hgc, hz, Nat.gcd_zero_right]), rfl⟩
      · have hml := Nat.mod_lt x (show 0 < y by omega)
        refine x_lload C 1 rfl dX12_divisor_13 ?_
        refine x_lload C 0 rfl dX12_divisor_15 ?_
        refine x_lrem C (by omega) dX12_divisor_17 ?_
        refine x_lstore C [(8, .long (jN ((x : Int) % (y : Int)))), (6, .long (jN ((y : Int)))), (4, .long (jN ((x : Int)))), (0, .long (jN (a))), (2, .long (jN (b)))] (by decide) rfl dX12_divisor_18 ?_
        refine x_lload C 1 rfl dX12_divisor_20 ?_
        refine x_lstore C [(4, .long (jN ((y : Int)))), (8, .long (jN ((x : Int) % (y : Int)))), (6, .long (jN ((y : Int)))), (0, .long (jN (a))), (2, .long (jN (b)))] (by decide) rfl dX12_divisor_22 ?_
        refine x_lload C 1 rfl dX12_divisor_24 ?_
        refine x_lstore C [(6, .long (jN ((x : Int) % (y : Int)))), (4, .long (jN ((y : Int)))), (8, .long (jN ((x : Int) % (y : Int)))), (0, .long (jN (a))), (2, .long (jN (b)))] (by decide) rfl dX12_divisor_26 ?_
        refine x_goto C 6 (by decide) dX12_divisor_28 ?_
        refine Wx.subL [0, 1, 3, 4] rfl ?_
        exact ih6 (y) (x % y) _ _ (by omega) (by omega) (by omega) (by rw [Nat.gcd_comm, ← Nat.gcd_rec, Nat.gcd_comm]; exact hgc) (rfl) (rfl)
  exact LP6 (((b.toNat)) + 1) (a.toNat) (b.toNat) _ _ (by omega) (by omega) (by omega) (rfl) (by omega) (by omega)
theorem ok_X12_partOf : okY yX12_partOf 3 := by decide +kernel
def rmX12_partOf : Room := { frames := 1, cells := 0, slots := 0, locals := 29 }
set_option maxRecDepth 100000 in
set_option maxHeartbeats 400000 in
theorem c_X12_partOf (l : Launch) (γ : GX) (w0 : va_W) (a : Int) (b : Int) (i : Int) (h0_ : 0 ≤ a ∧ a < 9223372036854775808) (h1_ : 0 ≤ b ∧ b < 9223372036854775808) (h2_ : -2147483648 ≤ i ∧ i < 2147483648) : MJ l γ yX12_partOf wsX12_partOf rmX12_partOf [.long (jN (a)), .long (jN (b)), .int (iN (i))] w0 (fun r_ w_ => r_ = (if a = 0 then i else if i = 0 then a / (Nat.gcd a.toNat b.toNat : Int) else b / (Nat.gcd a.toNat b.toNat : Int)) ∧ w_ = w0) 0 0 := by
  refine MJ.of (cc := cX12_partOf) (maxL := 7) RX12 rfl (by decide +kernel) rfl (Nat.le_of_ble_eq_true rfl) ?_
  intro X C hγ hl hnm hret
  subst hγ
  show Wx X 0 0 w0 0 [(0, .long (jN (a))), (2, .long (jN (b))), (4, .int (iN (i)))] []
  refine x_lload_n C 0 rfl rfl dX12_partOf_0 ?_
  refine x_lconst C 0 rfl dX12_partOf_1 ?_
  refine x_lcmp_ne C 10 (by decide) (by omega) dX12_partOf_2 dX12_partOf_3 (fun c_2 => ?_) (fun c_2 => ?_)
  · refine x_lload_n C 0 rfl rfl dX12_partOf_10 ?_
    refine x_lload_n C 1 rfl rfl dX12_partOf_11 ?_
    refine x_S_J C (As := [.long (jN (a)), .long (jN (b))]) (rest := []) 2 gX12_partOf_X12_divisor (c_X12_divisor _ _ w0 (a) (b) (by omega) (by omega)) rfl ok_X12_divisor rfl rfl rfl rfl dX12_partOf_12 (fun r w1 hp => ?_)
    obtain ⟨rfl, rfl⟩ := hp
    refine x_lstore C [(5, .long (jN ((Nat.gcd a.toNat b.toNat : Int)))), (0, .long (jN (a))), (2, .long (jN (b))), (4, .int (iN (i)))] (by decide) rfl dX12_partOf_15 ?_
    have hg0 : 0 < Nat.gcd a.toNat b.toNat := Nat.gcd_pos_of_pos_left _ (by omega)
    have hg1 : Nat.gcd a.toNat b.toNat ≤ a.toNat := Nat.gcd_le_left _ (by omega)
    refine x_iload C 3 rfl dX12_partOf_17 ?_
    refine x_if_ne C 29 (by decide) (by omega) dX12_partOf_19 (fun c_19 => ?_) (fun c_19 => ?_)
    · refine x_lload_n C 2 rfl rfl dX12_partOf_29 ?_
      refine x_lload C 0 rfl dX12_partOf_30 ?_
      refine x_ldiv C (by omega) dX12_partOf_32 ?_
      exact hret _ _ _ _ dX12_partOf_33 ⟨(by rw [if_neg (show ¬ a = 0 by omega), if_neg c_19]), rfl⟩
    · refine x_lload_n C 1 rfl rfl dX12_partOf_22 ?_
      refine x_lload C 0 rfl dX12_partOf_23 ?_
      refine x_ldiv C (by omega) dX12_partOf_25 ?_
      refine x_goto C 33 (by decide) dX12_partOf_26 ?_
      exact hret _ _ _ _ dX12_partOf_33 ⟨(by rw [if_neg (show ¬ a = 0 by omega), if_pos c_19]), rfl⟩
  · refine x_iload C 2 rfl dX12_partOf_6 ?_
    refine x_i2l C (by omega) dX12_partOf_8 ?_
    exact hret _ _ _ _ dX12_partOf_9 ⟨(by rw [if_pos (show a = 0 by omega)]), rfl⟩
theorem in_X12_payOf_X12 : ∀ w ∈ u_ws RX12 TX12 34, w ∈ wsX12_payOf := by decide +kernel
theorem ok_X12_payOf : okY yX12_payOf 1 := by decide +kernel
def rmX12_payOf : Room := { frames := 2, cells := 0, slots := 0, locals := 42 }
set_option maxRecDepth 100000 in
set_option maxHeartbeats 400000 in
theorem c_X12_payOf (l : Launch) (γ : GX) (a : Nat → Nat) (mh : Int → Int) (mn : Int) (mkd : Int → Int) (mfg : Int → Int) (mag : Int → Int) (mpo : Int → Int) (mwy : Int → Int) (mdy : Int) (mhw : Int → Int) (mkk : Int → Int) (mkf : Int → Int) (mrs : Int → Int) (mrm : Int → Int) (mrw : Int → Int) (mth : Int) (maw : Int) (mgr : Int → Int) (mwa : Int → Int) (mre : Int) (mpl : Int) (mib : Int) (msn : Int) (mpn : Int → Int) (mlo : Int → Int) (mtl : Int → Int) (mke : Int → Int) (mim : Int → Int) (mhi : Int) (mp0 : Int) (mtk : Int) (mki : Value) (mun : Int → Int) (msd : Int) (mbe : Int → Int) (hM : WFm mn mh mkd mfg mag mpo mwy mhw mkk mkf mrs mrm mrw) (bits : Int) (h0_ : 0 ≤ bits ∧ bits < 2147483648) : MI l γ yX12_payOf wsX12_payOf rmX12_payOf [.ref (a 0), .int (iN (bits))] (WM γ a mh mn mkd mfg mag mpo mwy mdy mhw mkk mkf mrs mrm mrw mth maw mgr mwa mre mpl mib msn mpn mlo mtl mke mim mhi mp0 mtk mki mun msd mbe) (fun r_ w_ => r_ = (sumz (fun i => if btz bits i then shF (mkd i) (mfg i) (mag i) / 10 + 1 else 0) mn.toNat) ∧ w_ = (WM γ a mh mn mkd mfg mag mpo mwy mdy mhw mkk mkf mrs mrm mrw mth maw mgr mwa mre mpl mib msn mpn mlo mtl mke mim mhi mp0 mtk mki mun msd mbe)) 0 0 := by
  refine MI.of (cc := cX12_payOf) (maxL := 4) (rt := .int) RX12 rfl (by decide +kernel) rfl (Nat.le_of_ble_eq_true rfl) ?_
  intro X C hγ hl hnm hret
  subst hγ
  have hMn := WFm.n hM
  show Wx X 0 0 (WM X.γ a mh mn mkd mfg mag mpo mwy mdy mhw mkk mkf mrs mrm mrw mth maw mgr mwa mre mpl mib msn mpn mlo mtl mke mim mhi mp0 mtk mki mun msd mbe) 0 [(0, .ref (a 0)), (1, .int (iN (bits)))] []
  refine x_iconst (v := 0) C dX12_payOf_0 ?_
  refine x_istore_n C [(2, .int (iN (0))), (0, .ref (a 0)), (1, .int (iN (bits)))] rfl (by decide) rfl dX12_payOf_1 ?_
  refine x_iconst (v := 0) C dX12_payOf_2 ?_
  refine x_istore_n C [(3, .int (iN (0))), (2, .int (iN (0))), (0, .ref (a 0)), (1, .int (iN (bits)))] rfl (by decide) rfl dX12_payOf_3 ?_
  have LP4 : ∀ (f : Nat) (k : Nat) (v3_4 : Int) (v2_4 : Int), (mn.toNat - k < f) → (k ≤ mn.toNat) → (((k : Int)) = v3_4) → (v2_4 = (sumz (fun i => if btz bits i then shF (mkd i) (mfg i) (mag i) / 10 + 1 else 0) k)) → Wx X 0 0 (WM X.γ a mh mn mkd mfg mag mpo mwy mdy mhw mkk mkf mrs mrm mrw mth maw mgr mwa mre mpl mib msn mpn mlo mtl mke mim mhi mp0 mtk mki mun msd mbe) 4 [(3, .int (iN (v3_4))), (2, .int (iN (v2_4))), (0, .ref (a 0)), (1, .int (iN (bits)))] [] := by
    intro f
    induction f with
    | zero => intro k v3_4 v2_4 hf; exact absurd hf (Nat.not_lt_zero _)
    | succ f ih4 =>
      intro k v3_4 v2_4 hf hk e3_4 e2_4
      subst e3_4
      refine x_iload_n C 0 rfl rfl dX12_payOf_4 ?_
      refine x_aload_n C 2 rfl rfl dX12_payOf_5 ?_
      refine x_get C in_X12_payOf_X12 0 rfl rfl 1 (by decide) (List.mem_of_getElem? (i := 1) rfl) rfl (v := .int (iN (mn))) rfl dX12_payOf_6 ?_
      refine x_icmp_ge C 43 (by decide) (by omega) dX12_payOf_9 (fun c_9 => ?_) (fun c_9 => ?_)
      · refine x_iload_n C 1 rfl rfl dX12_payOf_43 ?_
        exact hret _ _ _ _ dX12_payOf_44 rfl ⟨(by have hz : k = mn.toNat := (by omega); subst hz; exact e2_4), rfl⟩
      · refine x_iload_n C 1 rfl rfl dX12_payOf_12 ?_
        refine x_iload_n C 3 rfl rfl dX12_payOf_13 ?_
        refine x_iload_n C 0 rfl rfl dX12_payOf_14 ?_
        refine x_S_I C (As := [.int (iN (bits)), .int (iN ((k : Int)))]) (rest := [.int (iN (v2_4))]) 2 gX12_payOf_X12_hasBit (c_X12_hasBit _ _ (WM X.γ a mh mn mkd mfg mag mpo mwy mdy mhw mkk mkf mrs mrm mrw mth maw mgr mwa mre mpl mib msn mpn mlo mtl mke mim mhi mp0 mtk mki mun msd mbe) (bits) ((k : Int)) (by omega) (by omega)) rfl ok_X12_hasBit rfl rfl rfl rfl dX12_payOf_15 (fun r w1 hp => ?_)
        obtain ⟨rfl, rfl⟩ := hp
        refine x_ifeq_bz C 34 (by decide) dX12_payOf_18 (fun c_18 => ?_) (fun c_18 => ?_)
        · refine x_iconst (v := 0) C dX12_payOf_34 ?_
          refine x_iadd C dX12_payOf_35 ?_
          refine x_istore_n C [(2, .int (iN (v2_4 + 0))), (3, .int (iN ((k : Int)))), (0, .ref (a 0)), (1, .int (iN (bits)))] rfl (by decide) rfl dX12_payOf_36 ?_
          refine x_iinc C 1 [(3, .int (iN ((k : Int) + 1))), (2, .int (iN (v2_4 + 0))), (0, .ref (a 0)), (1, .int (iN (bits)))] rfl rfl (by decide) rfl dX12_payOf_37 ?_
          refine x_goto C 4 (by decide) dX12_payOf_40 ?_
          exact ih4 (k + 1) _ _ (by omega) (by omega) (by omega) (by simp only [sumz]; rw [if_neg c_18, e2_4])
        · refine x_aload_n C 2 rfl rfl dX12_payOf_21 ?_
          refine x_iload_n C 0 rfl rfl dX12_payOf_22 ?_
          refine x_V_I C (As := [.int (iN ((k : Int)))]) (rest := [.int (iN (v2_4))]) 1 0 rfl rfl gX12_payOf_X12_showsOf rfl (c_X12_showsOf _ _ a mh mn mkd mfg mag mpo mwy mdy mhw mkk mkf mrs mrm mrw mth maw mgr mwa mre mpl mib msn mpn mlo mtl mke mim mhi mp0 mtk mki mun msd mbe hM ((k : Int)) (by omega)) rfl ok_X12_showsOf rfl rfl rfl rfl dX12_payOf_23 (fun r w1 hp => ?_)
          obtain ⟨rfl, rfl⟩ := hp
          have b49 := shF_b (k := mkd ((k : Int))) (WFm.fg hM ((k : Int))) (WFm.ag hM ((k : Int)))
          refine x_bipush C (10) (by decide) dX12_payOf_26 ?_
          refine x_idiv C (by omega) dX12_payOf_28 ?_
          refine x_iconst (v := 0) C dX12_payOf_29 ?_
          refine x_iadd C dX12_payOf_30 ?_
          refine x_goto C 35 (by decide) dX12_payOf_31 ?_
          refine x_iadd C dX12_payOf_35 ?_
          refine x_istore_n C [(2, .int (iN (v2_4 + (((shF (mkd ((k : Int))) (mfg ((k : Int))) (mag ((k : Int)))) / 10) + 1)))), (3, .int (iN ((k : Int)))), (0, .ref (a 0)), (1, .int (iN (bits)))] rfl (by decide) rfl dX12_payOf_36 ?_
          refine x_iinc C 1 [(3, .int (iN ((k : Int) + 1))), (2, .int (iN (v2_4 + (((shF (mkd ((k : Int))) (mfg ((k : Int))) (mag ((k : Int)))) / 10) + 1)))), (0, .ref (a 0)), (1, .int (iN (bits)))] rfl rfl (by decide) rfl dX12_payOf_37 ?_
          refine x_goto C 4 (by decide) dX12_payOf_40 ?_
          exact ih4 (k + 1) _ _ (by omega) (by omega) (by omega) (by simp only [sumz]; rw [if_pos c_18, e2_4])
  exact LP4 ((mn.toNat - (0)) + 1) (0) _ _ (by omega) (by omega) (by omega) (rfl)
theorem in_X12_allGround_X12 : ∀ w ∈ u_ws RX12 TX12 34, w ∈ wsX12_allGround := by decide +kernel
theorem ok_X12_allGround : okY yX12_allGround 0 := by decide +kernel
def rmX12_allGround : Room := { frames := 3, cells := 0, slots := 0, locals := 67 }
set_option maxRecDepth 100000 in
set_option maxHeartbeats 400000 in
theorem c_X12_allGround (l : Launch) (γ : GX) (a : Nat → Nat) (mh : Int → Int) (mn : Int) (mkd : Int → Int) (mfg : Int → Int) (mag : Int → Int) (mpo : Int → Int) (mwy : Int → Int) (mdy : Int) (mhw : Int → Int) (mkk : Int → Int) (mkf : Int → Int) (mrs : Int → Int) (mrm : Int → Int) (mrw : Int → Int) (mth : Int) (mgr : Int → Int) (mwa : Int → Int) (mre : Int) (mpl : Int) (mib : Int) (msn : Int) (mpn : Int → Int) (mlo : Int → Int) (mtl : Int → Int) (mke : Int → Int) (mim : Int → Int) (mhi : Int) (mp0 : Int) (mtk : Int) (mki : Value) (mun : Int → Int) (msd : Int) (mbe : Int → Int) (hM : WFm mn mh mkd mfg mag mpo mwy mhw mkk mkf mrs mrm mrw) : MI l γ yX12_allGround wsX12_allGround rmX12_allGround [.ref (a 0)] (WM γ a mh mn mkd mfg mag mpo mwy mdy mhw mkk mkf mrs mrm mrw mth 0 mgr mwa mre mpl mib msn mpn mlo mtl mke mim mhi mp0 mtk mki mun msd mbe) (fun r_ w_ => r_ = (sumz (Ct.g (Lc mh mn mdy mkd mfg mag mpo mwy)) 15) ∧ w_ = (WM γ a mh mn mkd mfg mag mpo mwy mdy mhw mkk mkf mrs mrm mrw mth 0 (Ct.g (Lc mh mn mdy mkd mfg mag mpo mwy)) mwa mre mpl mib msn mpn mlo mtl mke mim mhi mp0 mtk mki mun msd mbe)) 0 0 := by
  refine MI.of (cc := cX12_allGround) (maxL := 3) (rt := .int) RX12 rfl (by decide +kernel) rfl (Nat.le_of_ble_eq_true rfl) ?_
  intro X C hγ hl hnm hret
  subst hγ
  have hMn := WFm.n hM
  show Wx X 0 0 (WM X.γ a mh mn mkd mfg mag mpo mwy mdy mhw mkk mkf mrs mrm mrw mth 0 mgr mwa mre mpl mib msn mpn mlo mtl mke mim mhi mp0 mtk mki mun msd mbe) 0 [(0, .ref (a 0))] []
  refine x_aload_n C 0 rfl rfl dX12_allGround_0 ?_
  refine x_V_V C (As := []) (rest := []) 0 0 rfl rfl gX12_allGround_X12_layGround rfl (c_X12_layGround0 _ _ a mh mn mkd mfg mag mpo mwy mdy mhw mkk mkf mrs mrm mrw mth mgr mwa mre mpl mib msn mpn mlo mtl mke mim mhi mp0 mtk mki mun msd mbe hM) rfl ok_X12_layGround rfl rfl rfl rfl dX12_allGround_1 (fun w1 hp => ?_)
  obtain rfl := hp
  refine x_iconst (v := 0) C dX12_allGround_4 ?_
  refine x_istore_n C [(1, .int (iN (0))), (0, .ref (a 0))] rfl (by decide) rfl dX12_allGround_5 ?_
  refine x_iconst (v := 0) C dX12_allGround_6 ?_
  refine x_istore_n C [(2, .int (iN (0))), (1, .int (iN (0))), (0, .ref (a 0))] rfl (by decide) rfl dX12_allGround_7 ?_
  have LP8 : ∀ (f : Nat) (k : Nat) (v2_8 : Int) (v1_8 : Int), (15 - k < f) → (k ≤ 15) → (((k : Int)) = v2_8) → (v1_8 = (sumz (Ct.g (Lc mh mn mdy mkd mfg mag mpo mwy)) k)) → Wx X 0 0 (WM X.γ a mh mn mkd mfg mag mpo mwy mdy mhw mkk mkf mrs mrm mrw mth 0 (Ct.g (Lc mh mn mdy mkd mfg mag mpo mwy)) mwa mre mpl mib msn mpn mlo mtl mke mim mhi mp0 mtk mki mun msd mbe) 8 [(2, .int (iN (v2_8))), (1, .int (iN (v1_8))), (0, .ref (a 0))] [] := by
    intro f
    induction f with
    | zero => intro k v2_8 v1_8 hf; exact absurd hf (Nat.not_lt_zero _)
    | succ f ih8 =>
      intro k v2_8 v1_8 hf hk e2_8 e1_8
      subst e2_8
      refine x_iload_n C 0 rfl rfl dX12_allGround_8 ?_
      refine x_bipush C (15) (by decide) dX12_allGround_9 ?_
      refine x_icmp_ge C 29 (by decide) (by omega) dX12_allGround_11 (fun c_11 => ?_) (fun c_11 => ?_)
      · refine x_iload_n C 1 rfl rfl dX12_allGround_29 ?_
        exact hret _ _ _ _ dX12_allGround_30 rfl ⟨(by have hz : k = 15 := (by omega); subst hz; exact e1_8), rfl⟩
      · refine x_iload_n C 1 rfl rfl dX12_allGround_14 ?_
        refine x_aload_n C 2 rfl rfl dX12_allGround_15 ?_
        refine x_get C in_X12_allGround_X12 0 rfl rfl 16 (by decide) (List.mem_of_getElem? (i := 1) rfl) rfl (v := .ref (a 13)) rfl dX12_allGround_16 ?_
        refine x_iload_n C 0 rfl rfl dX12_allGround_19 ?_
        refine x_iaload C (f := (Ct.g (Lc mh mn mdy mkd mfg mag mpo mwy))) 13 rfl (by omega) rfl dX12_allGround_20 ?_
        have b50 := WFc.g (WFm.L hM mdy) ((k : Int))
        refine x_iadd C dX12_allGround_21 ?_
        refine x_istore_n C [(1, .int (iN (v1_8 + ((Ct.g (Lc mh mn mdy mkd mfg mag mpo mwy)) (k : Int))))), (2, .int (iN ((k : Int)))), (0, .ref (a 0))] rfl (by decide) rfl dX12_allGround_22 ?_
        refine x_iinc C 1 [(2, .int (iN ((k : Int) + 1))), (1, .int (iN (v1_8 + ((Ct.g (Lc mh mn mdy mkd mfg mag mpo mwy)) (k : Int))))), (0, .ref (a 0))] rfl rfl (by decide) rfl dX12_allGround_23 ?_
        refine x_goto C 8 (by decide) dX12_allGround_26 ?_
        exact ih8 (k + 1) _ _ (by omega) (by omega) (by omega) (by simp only [sumz]; rw [e1_8])
  exact LP8 ((15 - (0)) + 1) (0) _ _ (by omega) (by omega) (by omega) (rfl)
end HCOM
