section HGO2
theorem rch_b {h : Int → Int} {n : Int} {pr sp sr : Int → Int} {i al stop b : Int} {po : Int → Int} (hp : bd po 0 14) : ∀ k, 0 ≤ rch h n pr sp sr i al stop b k po ∧ rch h n pr sp sr i al stop b k po ≤ 14 := by
  intro k
  induction k generalizing po with
  | zero => exact hp i
  | succ k ih =>
    simp only [rch]
    split
    · exact hp i
    · split
      · rename_i q
        exact ih (bd_upz (gth_ok hp) q.1)
      · exact hp i
theorem in_X12_getsTo_X12 : ∀ w ∈ u_ws RX12 TX12 34, w ∈ wsX12_getsTo := by decide +kernel
theorem ok_X12_getsTo : okY yX12_getsTo 3 := by decide +kernel
def rmX12_getsTo : Room := { frames := 5, cells := 0, slots := 0, locals := 116 }
set_option maxRecDepth 100000 in
set_option maxHeartbeats 400000 in
theorem c_X12_getsTo (l : Launch) (γ : GX) (a : Nat → Nat) (mh : Int → Int) (mn : Int) (mkd : Int → Int) (mfg : Int → Int) (mag : Int → Int) (mpo : Int → Int) (mwy : Int → Int) (mdy : Int) (mhw : Int → Int) (mkk : Int → Int) (mkf : Int → Int) (mrs : Int → Int) (mrm : Int → Int) (mrw : Int → Int) (mth : Int) (mgr : Int → Int) (mwa : Int → Int) (mre : Int) (mpl : Int) (mib : Int) (msn : Int) (mpn : Int → Int) (mlo : Int → Int) (mtl : Int → Int) (mke : Int → Int) (mim : Int → Int) (mhi : Int) (mp0 : Int) (mtk : Int) (mki : Value) (mun : Int → Int) (msd : Int) (mbe : Int → Int) (hM : WFm mn mh mkd mfg mag mpo mwy mhw mkk mkf mrs mrm mrw) (i : Int) (al : Int) (c : Int) (h0_ : 0 ≤ i ∧ i ≤ mn - 1) (h1_ : 0 ≤ al ∧ al < 2147483648) (h2_ : 0 ≤ c ∧ c ≤ 14) : MI l γ yX12_getsTo wsX12_getsTo rmX12_getsTo [.ref (a 0), .int (iN (i)), .int (iN (al)), .int (iN (c))] (WM γ a mh mn mkd mfg mag mpo mwy mdy mhw mkk mkf mrs mrm mrw mth 0 mgr mwa mre mpl mib msn mpn mlo mtl mke mim mhi mp0 mtk mki mun msd mbe) (fun r_ w_ => ∃ G, r_ = bz (q_gets (Lc mh mn mdy mkd mfg mag mpo mwy) i al c) ∧ w_ = (WM γ a mh mn mkd mfg mag mpo mwy mdy mhw mkk mkf mrs mrm mrw mth 0 G mwa mre mpl mib msn mpn mlo mtl (pck mh mn mdy mkd mfg mag mpo mwy) mim mhi 47 0 (.ref (a 18)) mun msd mbe)) 0 0 := by
  refine MI.of (cc := cX12_getsTo) (maxL := 4) (rt := .boolean) RX12 rfl (by decide +kernel) rfl (Nat.le_of_ble_eq_true rfl) ?_
  intro X C hγ hl hnm hret
  subst hγ
  have hMn := WFm.n hM
  show Wx X 0 0 (WM X.γ a mh mn mkd mfg mag mpo mwy mdy mhw mkk mkf mrs mrm mrw mth 0 mgr mwa mre mpl mib msn mpn mlo mtl mke mim mhi mp0 mtk mki mun msd mbe) 0 [(0, .ref (a 0)), (1, .int (iN (i))), (2, .int (iN (al))), (3, .int (iN (c)))] []
  refine x_aload_n C 0 rfl rfl dX12_getsTo_0 ?_
  refine x_iload_n C 1 rfl rfl dX12_getsTo_1 ?_
  refine x_iload_n C 2 rfl rfl dX12_getsTo_2 ?_
  refine x_iload_n C 3 rfl rfl dX12_getsTo_3 ?_
  refine x_aload_n C 0 rfl rfl dX12_getsTo_4 ?_
  refine x_get C in_X12_getsTo_X12 0 rfl rfl 5 (by decide) (List.mem_of_getElem? (i := 1) rfl) rfl (v := .ref (a 5)) rfl dX12_getsTo_5 ?_
  refine x_iload_n C 1 rfl rfl dX12_getsTo_8 ?_
  refine x_iaload C (f := mpo) 5 rfl (by omega) rfl dX12_getsTo_9 ?_
  have b107 := WFm.po hM (i)
  have LP18 : ∀ (s0_18 : Int), (s0_18 = (if mpo i < c then 1 else -1)) → Wx X 0 0 (WM X.γ a mh mn mkd mfg mag mpo mwy mdy mhw mkk mkf mrs mrm mrw mth 0 mgr mwa mre mpl mib msn mpn mlo mtl mke mim mhi mp0 mtk mki mun msd mbe) 18 [(0, .ref (a 0)), (1, .int (iN (i))), (2, .int (iN (al))), (3, .int (iN (c)))] [.int (iN (s0_18)), .int (iN (al)), .int (iN (i)), .ref (a 0)] := by
    intro s0_18 es0_18
    refine x_iload_n C 3 rfl rfl dX12_getsTo_18 ?_
    refine x_V_I C (As := [.int (iN (i)), .int (iN (al)), .int (iN (s0_18)), .int (iN (c))]) (rest := []) 4 0 rfl rfl gX12_getsTo_X12_reached rfl (c_X12_reached _ _ a mh mn mkd mfg mag mpo mwy mdy mhw mkk mkf mrs mrm mrw mth mgr mwa mre mpl mib msn mpn mlo mtl mke mim mhi mp0 mtk mki mun msd mbe hM (i) (al) (s0_18) (c) (by omega) (by omega) (by omega) (by omega)) rfl ok_X12_reached rfl rfl rfl rfl dX12_getsTo_19 (fun r w1 hp => ?_)
    obtain ⟨Gb108, rfl, rfl⟩ := hp
    show Wx X 0 0 (WM X.γ a mh mn mkd mfg mag mpo mwy mdy mhw mkk mkf mrs mrm mrw mth 0 Gb108 mwa mre mpl mib msn mpn mlo mtl (pck mh mn mdy mkd mfg mag mpo mwy) mim mhi 47 0 (.ref (a 18)) mun msd mbe) 22 [(0, .ref (a 0)), (1, .int (iN (i))), (2, .int (iN (al))), (3, .int (iN (c)))] [.int (iN (Ct.rc (Lc mh mn mdy mkd mfg mag mpo mwy) i al c s0_18 15 mpo))]
    have b109 : 0 ≤ Ct.rc (Lc mh mn mdy mkd mfg mag mpo mwy) i al c s0_18 15 mpo ∧ Ct.rc (Lc mh mn mdy mkd mfg mag mpo mwy) i al c s0_18 15 mpo ≤ 14 := rch_b (WFm.po hM) 15
    refine x_iload_n C 3 rfl rfl dX12_getsTo_22 ?_
    refine x_icmp_ne C 30 (by decide) (by omega) dX12_getsTo_23 (fun c_23 => ?_) (fun c_23 => ?_)
    · refine x_iconst (v := 0) C dX12_getsTo_30 ?_
      exact hret _ _ _ _ dX12_getsTo_31 (nar_z (by decide)) ⟨_, (bz_f (show ¬ q_gets (Lc mh mn mdy mkd mfg mag mpo mwy) i al c by show ¬ Ct.rc (Lc mh mn mdy mkd mfg mag mpo mwy) i al c (if mpo i < c then 1 else -1) 15 mpo = c; rw [← es0_18]; omega)).symm, rfl⟩
    · refine x_iconst (v := 0) C dX12_getsTo_26 ?_
      refine x_goto C 31 (by decide) dX12_getsTo_27 ?_
      exact hret _ _ _ _ dX12_getsTo_31 (nar_z (by decide)) ⟨_, (bz_t (show q_gets (Lc mh mn mdy mkd mfg mag mpo mwy) i al c by show Ct.rc (Lc mh mn mdy mkd mfg mag mpo mwy) i al c (if mpo i < c then 1 else -1) 15 mpo = c; rw [← es0_18]; omega)).symm, rfl⟩
  refine x_icmp_le C 17 (by decide) (by omega) dX12_getsTo_10 (fun c_10 => ?_) (fun c_10 => ?_)
  · refine x_iconst (v := 0) C dX12_getsTo_17 ?_
    exact LP18 _ (by omega)
  · refine x_iconst (v := 0) C dX12_getsTo_13 ?_
    refine x_goto C 18 (by decide) dX12_getsTo_14 ?_
    exact LP18 _ (by omega)
theorem in_X12_goes_X12 : ∀ w ∈ u_ws RX12 TX12 34, w ∈ wsX12_goes := by decide +kernel
theorem ok_X12_goes : okY yX12_goes 2 := by decide +kernel
def rmX12_goes : Room := { frames := 6, cells := 0, slots := 0, locals := 139 }
set_option maxRecDepth 100000 in
set_option maxHeartbeats 400000 in
theorem c_X12_goes (l : Launch) (γ : GX) (a : Nat → Nat) (mh : Int → Int) (mn : Int) (mkd : Int → Int) (mfg : Int → Int) (mag : Int → Int) (mpo : Int → Int) (mwy : Int → Int) (mdy : Int) (mhw : Int → Int) (mkk : Int → Int) (mkf : Int → Int) (mrs : Int → Int) (mrm : Int → Int) (mrw : Int → Int) (mth : Int) (mgr : Int → Int) (mwa : Int → Int) (mre : Int) (mpl : Int) (mib : Int) (msn : Int) (mpn : Int → Int) (mlo : Int → Int) (mtl : Int → Int) (mke : Int → Int) (mim : Int → Int) (mhi : Int) (mp0 : Int) (mtk : Int) (mki : Value) (mun : Int → Int) (msd : Int) (mbe : Int → Int) (hM : WFm mn mh mkd mfg mag mpo mwy mhw mkk mkf mrs mrm mrw) (i : Int) (c : Int) (h0_ : -2147483648 ≤ i ∧ i < 2147483648) (h1_ : -2147483648 ≤ c ∧ c < 2147483648) : MI l γ yX12_goes wsX12_goes rmX12_goes [.ref (a 0), .int (iN (i)), .int (iN (c))] (WM γ a mh mn mkd mfg mag mpo mwy mdy mhw mkk mkf mrs mrm mrw mth 0 mgr mwa mre mpl mib msn mpn mlo mtl mke mim mhi mp0 mtk mki mun msd mbe) (fun r_ w_ => r_ = q_goes (Lc mh mn mdy mkd mfg mag mpo mwy) i c ∧ Wk γ a mh mn mkd mfg mag mpo mwy mdy mhw mkk mkf mrs mrm mrw 0 mim mhi w_) 0 0 := by
  refine MI.of (cc := cX12_goes) (maxL := 3) (rt := .int) RX12 rfl (by decide +kernel) rfl (Nat.le_of_ble_eq_true rfl) ?_
  intro X C hγ hl hnm hret
  subst hγ
  have hMn := WFm.n hM
  show Wx X 0 0 (WM X.γ a mh mn mkd mfg mag mpo mwy mdy mhw mkk mkf mrs mrm mrw mth 0 mgr mwa mre mpl mib msn mpn mlo mtl mke mim mhi mp0 mtk mki mun msd mbe) 0 [(0, .ref (a 0)), (1, .int (iN (i))), (2, .int (iN (c)))] []
  refine x_aload_n C 0 rfl rfl dX12_goes_0 ?_
  refine x_iconst (v := 0) C dX12_goes_1 ?_
  refine x_put C in_X12_goes_X12 tyX12 tyX12_ok nmX12 0 rfl rfl 14 (by decide) (List.mem_of_getElem? (i := 1) rfl) rfl rfl rfl rfl rfl (Nat.le_of_ble_eq_true rfl) (WM X.γ a mh mn mkd mfg mag mpo mwy mdy mhw mkk mkf mrs mrm mrw 0 0 mgr mwa mre mpl mib msn mpn mlo mtl mke mim mhi mp0 mtk mki mun msd mbe) rfl dX12_goes_2 ?_
  refine x_aload_n C 0 rfl rfl dX12_goes_5 ?_
  refine x_iload_n C 1 rfl rfl dX12_goes_6 ?_
  refine x_V_I C (As := [.int (iN (i))]) (rest := []) 1 0 rfl rfl gX12_goes_X12_isOne rfl (c_X12_isOne _ _ a mh mn mkd mfg mag mpo mwy mdy mhw mkk mkf mrs mrm mrw 0 0 mgr mwa mre mpl mib msn mpn mlo mtl mke mim mhi mp0 mtk mki mun msd mbe hM (i) (by omega)) rfl ok_X12_isOne rfl rfl rfl rfl dX12_goes_7 (fun r w1 hp => ?_)
  obtain ⟨rfl, rfl⟩ := hp
  refine x_ifeq_bz C 20 (by decide) dX12_goes_10 (fun c_10 => ?_) (fun c_10 => ?_)
  · refine x_iconst (v := 0) C dX12_goes_20 ?_
    exact hret _ _ _ _ dX12_goes_21 rfl ⟨(by unfold q_goes; rw [if_neg (show ¬ (q_one (Lc mh mn mdy mkd mfg mag mpo mwy) i ∧ q_cell c) from (show ¬ ((0 ≤ i ∧ i ≤ mn - 1) ∧ 0 ≤ c ∧ c ≤ 14) by omega))]), Wk.mk⟩
  · refine x_iload_n C 2 rfl rfl dX12_goes_13 ?_
    refine x_S_I C (As := [.int (iN (c))]) (rest := []) 1 gX12_goes_X12_isCell (c_X12_isCell _ _ (WM X.γ a mh mn mkd mfg mag mpo mwy mdy mhw mkk mkf mrs mrm mrw 0 0 mgr mwa mre mpl mib msn mpn mlo mtl mke mim mhi mp0 mtk mki mun msd mbe) (c) (by omega)) rfl ok_X12_isCell rfl rfl rfl rfl dX12_goes_14 (fun r w1 hp => ?_)
    obtain ⟨rfl, rfl⟩ := hp
    refine x_ifne_bz C 22 (by decide) dX12_goes_17 (fun c_17 => ?_) (fun c_17 => ?_)
    · refine x_aload_n C 0 rfl rfl dX12_goes_22 ?_
      refine x_iload_n C 1 rfl rfl dX12_goes_23 ?_
      refine x_iconst (v := 0) C dX12_goes_24 ?_
      refine x_iload_n C 2 rfl rfl dX12_goes_25 ?_
      refine x_V_I C (As := [.int (iN (i)), .int (iN (0)), .int (iN (c))]) (rest := []) 3 0 rfl rfl gX12_goes_X12_getsTo rfl (c_X12_getsTo _ _ a mh mn mkd mfg mag mpo mwy mdy mhw mkk mkf mrs mrm mrw 0 mgr mwa mre mpl mib msn mpn mlo mtl mke mim mhi mp0 mtk mki mun msd mbe hM (i) (0) (c) (by omega) (by omega) (by omega)) rfl ok_X12_getsTo rfl rfl rfl rfl dX12_goes_26 (fun r w1 hp => ?_)
      obtain ⟨Gb110, rfl, rfl⟩ := hp
      refine x_ifeq_bz C 36 (by decide) dX12_goes_29 (fun c_29 => ?_) (fun c_29 => ?_)
      · refine x_iconst (v := 0) C dX12_goes_36 ?_
        exact hret _ _ _ _ dX12_goes_37 rfl ⟨(by unfold q_goes; rw [if_pos (show q_one (Lc mh mn mdy mkd mfg mag mpo mwy) i ∧ q_cell c from (show (0 ≤ i ∧ i ≤ mn - 1) ∧ 0 ≤ c ∧ c ≤ 14 by omega)), if_neg c_29]), Wk.mk⟩
      · refine x_iconst (v := 0) C dX12_goes_32 ?_
        refine x_goto C 37 (by decide) dX12_goes_33 ?_
        exact hret _ _ _ _ dX12_goes_37 rfl ⟨(by unfold q_goes; rw [if_pos (show q_one (Lc mh mn mdy mkd mfg mag mpo mwy) i ∧ q_cell c from (show (0 ≤ i ∧ i ≤ mn - 1) ∧ 0 ≤ c ∧ c ≤ 14 by omega)), if_pos c_29]), Wk.mk⟩
    · refine x_iconst (v := 0) C dX12_goes_20 ?_
      exact hret _ _ _ _ dX12_goes_21 rfl ⟨(by unfold q_goes; rw [if_neg (show ¬ (q_one (Lc mh mn mdy mkd mfg mag mpo mwy) i ∧ q_cell c) from (show ¬ ((0 ≤ i ∧ i ≤ mn - 1) ∧ 0 ≤ c ∧ c ≤ 14) by omega))]), Wk.mk⟩
theorem in_X12_far_X12 : ∀ w ∈ u_ws RX12 TX12 34, w ∈ wsX12_far := by decide +kernel
theorem ok_X12_far : okY yX12_far 2 := by decide +kernel
def rmX12_far : Room := { frames := 5, cells := 0, slots := 0, locals := 116 }
set_option maxRecDepth 100000 in
set_option maxHeartbeats 400000 in
theorem c_X12_far (l : Launch) (γ : GX) (a : Nat → Nat) (mh : Int → Int) (mn : Int) (mkd : Int → Int) (mfg : Int → Int) (mag : Int → Int) (mpo : Int → Int) (mwy : Int → Int) (mdy : Int) (mhw : Int → Int) (mkk : Int → Int) (mkf : Int → Int) (mrs : Int → Int) (mrm : Int → Int) (mrw : Int → Int) (mth : Int) (mgr : Int → Int) (mwa : Int → Int) (mre : Int) (mpl : Int) (mib : Int) (msn : Int) (mpn : Int → Int) (mlo : Int → Int) (mtl : Int → Int) (mke : Int → Int) (mim : Int → Int) (mhi : Int) (mp0 : Int) (mtk : Int) (mki : Value) (mun : Int → Int) (msd : Int) (mbe : Int → Int) (hM : WFm mn mh mkd mfg mag mpo mwy mhw mkk mkf mrs mrm mrw) (i : Int) (w : Int) (h0_ : -2147483648 ≤ i ∧ i < 2147483648) (h1_ : -2147483648 ≤ w ∧ w < 2147483648) : MI l γ yX12_far wsX12_far rmX12_far [.ref (a 0), .int (iN (i)), .int (iN (w))] (WM γ a mh mn mkd mfg mag mpo mwy mdy mhw mkk mkf mrs mrm mrw mth 0 mgr mwa mre mpl mib msn mpn mlo mtl mke mim mhi mp0 mtk mki mun msd mbe) (fun r_ w_ => r_ = q_far (Lc mh mn mdy mkd mfg mag mpo mwy) i w ∧ Wk γ a mh mn mkd mfg mag mpo mwy mdy mhw mkk mkf mrs mrm mrw 0 mim mhi w_) 0 0 := by
  refine MI.of (cc := cX12_far) (maxL := 3) (rt := .int) RX12 rfl (by decide +kernel) rfl (Nat.le_of_ble_eq_true rfl) ?_
  intro X C hγ hl hnm hret
  subst hγ
  have hMn := WFm.n hM
  show Wx X 0 0 (WM X.γ a mh mn mkd mfg mag mpo mwy mdy mhw mkk mkf mrs mrm mrw mth 0 mgr mwa mre mpl mib msn mpn mlo mtl mke mim mhi mp0 mtk mki mun msd mbe) 0 [(0, .ref (a 0)), (1, .int (iN (i))), (2, .int (iN (w)))] []
  refine x_aload_n C 0 rfl rfl dX12_far_0 ?_
  refine x_iconst (v := 0) C dX12_far_1 ?_
  refine x_put C in_X12_far_X12 tyX12 tyX12_ok nmX12 0 rfl rfl 14 (by decide) (List.mem_of_getElem? (i := 1) rfl) rfl rfl rfl rfl rfl (Nat.le_of_ble_eq_true rfl) (WM X.γ a mh mn mkd mfg mag mpo mwy mdy mhw mkk mkf mrs mrm mrw 0 0 mgr mwa mre mpl mib msn mpn mlo mtl mke mim mhi mp0 mtk mki mun msd mbe) rfl dX12_far_2 ?_
  refine x_aload_n C 0 rfl rfl dX12_far_5 ?_
  refine x_iload_n C 1 rfl rfl dX12_far_6 ?_
  refine x_V_I C (As := [.int (iN (i))]) (rest := []) 1 0 rfl rfl gX12_far_X12_isOne rfl (c_X12_isOne _ _ a mh mn mkd mfg mag mpo mwy mdy mhw mkk mkf mrs mrm mrw 0 0 mgr mwa mre mpl mib msn mpn mlo mtl mke mim mhi mp0 mtk mki mun msd mbe hM (i) (by omega)) rfl ok_X12_isOne rfl rfl rfl rfl dX12_far_7 (fun r w1 hp => ?_)
  obtain ⟨rfl, rfl⟩ := hp
  refine x_ifeq_bz C 23 (by decide) dX12_far_10 (fun c_10 => ?_) (fun c_10 => ?_)
  · refine x_iconst (v := 0) C dX12_far_23 ?_
    exact hret _ _ _ _ dX12_far_24 rfl ⟨(by unfold q_far; rw [if_neg (show ¬ (q_one (Lc mh mn mdy mkd mfg mag mpo mwy) i ∧ 0 ≤ w ∧ w ≤ 1) from (show ¬ ((0 ≤ i ∧ i ≤ mn - 1) ∧ 0 ≤ w ∧ w ≤ 1) by omega))]), Wk.mk⟩
  · refine x_iload_n C 2 rfl rfl dX12_far_13 ?_
    refine x_i2l C (by omega) dX12_far_14 ?_
    refine x_lconst C 0 rfl dX12_far_15 ?_
    refine x_lconst C 1 rfl dX12_far_16 ?_
    refine x_S_I C (As := [.long (jN (w)), .long (jN (0)), .long (jN (1))]) (rest := []) 3 gX12_far_X12_in (c_X12_in _ _ (WM X.γ a mh mn mkd mfg mag mpo mwy mdy mhw mkk mkf mrs mrm mrw 0 0 mgr mwa mre mpl mib msn mpn mlo mtl mke mim mhi mp0 mtk mki mun msd mbe) (w) (0) (1) (by omega) (by omega) (by omega)) rfl ok_X12_in rfl rfl rfl rfl dX12_far_17 (fun r w1 hp => ?_)
    obtain ⟨rfl, rfl⟩ := hp
    refine x_ifne_bz C 25 (by decide) dX12_far_20 (fun c_20 => ?_) (fun c_20 => ?_)
    · refine x_iload_n C 2 rfl rfl dX12_far_25 ?_
      refine x_if_ne C 41 (by decide) (by omega) dX12_far_26 (fun c_26 => ?_) (fun c_26 => ?_)
      · refine x_aload_n C 0 rfl rfl dX12_far_41 ?_
        refine x_iload_n C 1 rfl rfl dX12_far_42 ?_
        refine x_iconst (v := 0) C dX12_far_43 ?_
        refine x_iconst (v := 0) C dX12_far_44 ?_
        refine x_iconst (v := 0) C dX12_far_45 ?_
        refine x_V_I C (As := [.int (iN (i)), .int (iN (0)), .int (iN (-1)), .int (iN (0))]) (rest := []) 4 0 rfl rfl gX12_far_X12_reached rfl (c_X12_reached _ _ a mh mn mkd mfg mag mpo mwy mdy mhw mkk mkf mrs mrm mrw 0 mgr mwa mre mpl mib msn mpn mlo mtl mke mim mhi mp0 mtk mki mun msd mbe hM (i) (0) (-1) (0) (by omega) (by omega) (by omega) (by omega)) rfl ok_X12_reached rfl rfl rfl rfl dX12_far_46 (fun r w1 hp => ?_)
        obtain ⟨Gb111, rfl, rfl⟩ := hp
        show Wx X 0 0 (WM X.γ a mh mn mkd mfg mag mpo mwy mdy mhw mkk mkf mrs mrm mrw 0 0 Gb111 mwa mre mpl mib msn mpn mlo mtl (pck mh mn mdy mkd mfg mag mpo mwy) mim mhi 47 0 (.ref (a 18)) mun msd mbe) 49 [(0, .ref (a 0)), (1, .int (iN (i))), (2, .int (iN (w)))] [.int (iN (Ct.rc (Lc mh mn mdy mkd mfg mag mpo mwy) i 0 0 (-1) 15 mpo))]
        have b112 : 0 ≤ Ct.rc (Lc mh mn mdy mkd mfg mag mpo mwy) i 0 0 (-1) 15 mpo ∧ Ct.rc (Lc mh mn mdy mkd mfg mag mpo mwy) i 0 0 (-1) 15 mpo ≤ 14 := rch_b (WFm.po hM) 15
        exact hret _ _ _ _ dX12_far_49 rfl ⟨(by unfold q_far; rw [if_pos (show q_one (Lc mh mn mdy mkd mfg mag mpo mwy) i ∧ 0 ≤ w ∧ w ≤ 1 from (show (0 ≤ i ∧ i ≤ mn - 1) ∧ 0 ≤ w ∧ w ≤ 1 by omega)), if_neg (show ¬ w = 0 by omega)]; rfl), Wk.mk⟩
      · refine x_aload_n C 0 rfl rfl dX12_far_29 ?_
        refine x_iload_n C 1 rfl rfl dX12_far_30 ?_
        refine x_iconst (v := 0) C dX12_far_31 ?_
        refine x_iconst (v := 0) C dX12_far_32 ?_
        refine x_bipush C (14) (by decide) dX12_far_33 ?_
        refine x_V_I C (As := [.int (iN (i)), .int (iN (0)), .int (iN (1)), .int (iN (14))]) (rest := []) 4 0 rfl rfl gX12_far_X12_reached rfl (c_X12_reached _ _ a mh mn mkd mfg mag mpo mwy mdy mhw mkk mkf mrs mrm mrw 0 mgr mwa mre mpl mib msn mpn mlo mtl mke mim mhi mp0 mtk mki mun msd mbe hM (i) (0) (1) (14) (by omega) (by omega) (by omega) (by omega)) rfl ok_X12_reached rfl rfl rfl rfl dX12_far_35 (fun r w1 hp => ?_)
        obtain ⟨Gb113, rfl, rfl⟩ := hp
        show Wx X 0 0 (WM X.γ a mh mn mkd mfg mag mpo mwy mdy mhw mkk mkf mrs mrm mrw 0 0 Gb113 mwa mre mpl mib msn mpn mlo mtl (pck mh mn mdy mkd mfg mag mpo mwy) mim mhi 47 0 (.ref (a 18)) mun msd mbe) 38 [(0, .ref (a 0)), (1, .int (iN (i))), (2, .int (iN (w)))] [.int (iN (Ct.rc (Lc mh mn mdy mkd mfg mag mpo mwy) i 0 14 1 15 mpo))]
        have b114 : 0 ≤ Ct.rc (Lc mh mn mdy mkd mfg mag mpo mwy) i 0 14 1 15 mpo ∧ Ct.rc (Lc mh mn mdy mkd mfg mag mpo mwy) i 0 14 1 15 mpo ≤ 14 := rch_b (WFm.po hM) 15
        refine x_goto C 49 (by decide) dX12_far_38 ?_
        exact hret _ _ _ _ dX12_far_49 rfl ⟨(by unfold q_far; rw [if_pos (show q_one (Lc mh mn mdy mkd mfg mag mpo mwy) i ∧ 0 ≤ w ∧ w ≤ 1 from (show (0 ≤ i ∧ i ≤ mn - 1) ∧ 0 ≤ w ∧ w ≤ 1 by omega)), if_pos (show w = 0 by omega)]; rfl), Wk.mk⟩
    · refine x_iconst (v := 0) C dX12_far_23 ?_
      exact hret _ _ _ _ dX12_far_24 rfl ⟨(by unfold q_far; rw [if_neg (show ¬ (q_one (Lc mh mn mdy mkd mfg mag mpo mwy) i ∧ 0 ≤ w ∧ w ≤ 1) from (show ¬ ((0 ≤ i ∧ i ≤ mn - 1) ∧ 0 ≤ w ∧ w ≤ 1) by omega))]), Wk.mk⟩
theorem in_X12_company_X12 : ∀ w ∈ u_ws RX12 TX12 34, w ∈ wsX12_company := by decide +kernel
theorem ok_X12_company : okY yX12_company 2 := by decide +kernel
def rmX12_company : Room := { frames := 6, cells := 0, slots := 0, locals := 139 }
set_option maxRecDepth 100000 in
set_option maxHeartbeats 400000 in
theorem c_X12_company (l : Launch) (γ : GX) (a : Nat → Nat) (mh : Int → Int) (mn : Int) (mkd : Int → Int) (mfg : Int → Int) (mag : Int → Int) (mpo : Int → Int) (mwy : Int → Int) (mdy : Int) (mhw : Int → Int) (mkk : Int → Int) (mkf : Int → Int) (mrs : Int → Int) (mrm : Int → Int) (mrw : Int → Int) (mth : Int) (mgr : Int → Int) (mwa : Int → Int) (mre : Int) (mpl : Int) (mib : Int) (msn : Int) (mpn : Int → Int) (mlo : Int → Int) (mtl : Int → Int) (mke : Int → Int) (mim : Int → Int) (mhi : Int) (mp0 : Int) (mtk : Int) (mki : Value) (mun : Int → Int) (msd : Int) (mbe : Int → Int) (hM : WFm mn mh mkd mfg mag mpo mwy mhw mkk mkf mrs mrm mrw) (i : Int) (c : Int) (h0_ : -2147483648 ≤ i ∧ i < 2147483648) (h1_ : -2147483648 ≤ c ∧ c < 2147483648) : MI l γ yX12_company wsX12_company rmX12_company [.ref (a 0), .int (iN (i)), .int (iN (c))] (WM γ a mh mn mkd mfg mag mpo mwy mdy mhw mkk mkf mrs mrm mrw mth 0 mgr mwa mre mpl mib msn mpn mlo mtl mke mim mhi mp0 mtk mki mun msd mbe) (fun r_ w_ => r_ = q_company (Lc mh mn mdy mkd mfg mag mpo mwy) i c ∧ Wk γ a mh mn mkd mfg mag mpo mwy mdy mhw mkk mkf mrs mrm mrw 0 mim mhi w_) 0 0 := by
  refine MI.of (cc := cX12_company) (maxL := 6) (rt := .int) RX12 rfl (by decide +kernel) rfl (Nat.le_of_ble_eq_true rfl) ?_
  intro X C hγ hl hnm hret
  subst hγ
  have hMn := WFm.n hM
  have bpw := pw_b hMn
  show Wx X 0 0 (WM X.γ a mh mn mkd mfg mag mpo mwy mdy mhw mkk mkf mrs mrm mrw mth 0 mgr mwa mre mpl mib msn mpn mlo mtl mke mim mhi mp0 mtk mki mun msd mbe) 0 [(0, .ref (a 0)), (1, .int (iN (i))), (2, .int (iN (c)))] []
  refine x_aload_n C 0 rfl rfl dX12_company_0 ?_
  refine x_iconst (v := 0) C dX12_company_1 ?_
  refine x_put C in_X12_company_X12 tyX12 tyX12_ok nmX12 0 rfl rfl 14 (by decide) (List.mem_of_getElem? (i := 1) rfl) rfl rfl rfl rfl rfl (Nat.le_of_ble_eq_true rfl) (WM X.γ a mh mn mkd mfg mag mpo mwy mdy mhw mkk mkf mrs mrm mrw 0 0 mgr mwa mre mpl mib msn mpn mlo mtl mke mim mhi mp0 mtk mki mun msd mbe) rfl dX12_company_2 ?_
  refine x_aload_n C 0 rfl rfl dX12_company_5 ?_
  refine x_iload_n C 1 rfl rfl dX12_company_6 ?_
  refine x_V_I C (As := [.int (iN (i))]) (rest := []) 1 0 rfl rfl gX12_company_X12_isOne rfl (c_X12_isOne _ _ a mh mn mkd mfg mag mpo mwy mdy mhw mkk mkf mrs mrm mrw 0 0 mgr mwa mre mpl mib msn mpn mlo mtl mke mim mhi mp0 mtk mki mun msd mbe hM (i) (by omega)) rfl ok_X12_isOne rfl rfl rfl rfl dX12_company_7 (fun r w1 hp => ?_)
  obtain ⟨rfl, rfl⟩ := hp
  refine x_ifeq_bz C 20 (by decide) dX12_company_10 (fun c_10 => ?_) (fun c_10 => ?_)
  · refine x_iconst (v := 0) C dX12_company_20 ?_
    exact hret _ _ _ _ dX12_company_21 rfl ⟨(by unfold q_company; rw [if_neg (show ¬ (q_one (Lc mh mn mdy mkd mfg mag mpo mwy) i ∧ q_cell c) from (show ¬ ((0 ≤ i ∧ i ≤ mn - 1) ∧ 0 ≤ c ∧ c ≤ 14) by omega))]), Wk.mk⟩
  · refine x_iload_n C 2 rfl rfl dX12_company_13 ?_
    refine x_S_I C (As := [.int (iN (c))]) (rest := []) 1 gX12_company_X12_isCell (c_X12_isCell _ _ (WM X.γ a mh mn mkd mfg mag mpo mwy mdy mhw mkk mkf mrs mrm mrw 0 0 mgr mwa mre mpl mib msn mpn mlo mtl mke mim mhi mp0 mtk mki mun msd mbe) (c) (by omega)) rfl ok_X12_isCell rfl rfl rfl rfl dX12_company_14 (fun r w1 hp => ?_)
    obtain ⟨rfl, rfl⟩ := hp
    refine x_ifne_bz C 22 (by decide) dX12_company_17 (fun c_17 => ?_) (fun c_17 => ?_)
    · refine x_bipush C (-4) (by decide) dX12_company_22 ?_
      refine x_istore_n C [(3, .int (iN (-4))), (0, .ref (a 0)), (1, .int (iN (i))), (2, .int (iN (c)))] rfl (by decide) rfl dX12_company_24 ?_
      refine x_iconst (v := 0) C dX12_company_25 ?_
      refine x_istore C [(4, .int (iN (0))), (3, .int (iN (-4))), (0, .ref (a 0)), (1, .int (iN (i))), (2, .int (iN (c)))] (by decide) rfl dX12_company_26 ?_
      have LP28 : ∀ (f : Nat) (k : Nat) (G : Int → Int) (KE : Int → Int) (P0 : Int) (TK : Int) (KY : Value) (v4_28 : Int) (v3_28 : Int), (pw mn - k < f) → (k ≤ pw mn) → (((k : Int)) = v4_28) → (v3_28 = (cmpz (Lc mh mn mdy mkd mfg mag mpo mwy) i c k)) → Wx X 0 0 (WM X.γ a mh mn mkd mfg mag mpo mwy mdy mhw mkk mkf mrs mrm mrw 0 0 G mwa mre mpl mib msn mpn mlo mtl KE mim mhi P0 TK KY mun msd mbe) 28 [(4, .int (iN (v4_28))), (3, .int (iN (v3_28))), (0, .ref (a 0)), (1, .int (iN (i))), (2, .int (iN (c)))] [] := by
        intro f
        induction f with
        | zero => intro k G KE P0 TK KY v4_28 v3_28 hf; exact absurd hf (Nat.not_lt_zero _)
        | succ f ih28 =>
          intro k G KE P0 TK KY v4_28 v3_28 hf hk e4_28 e3_28
          subst e4_28
          have bc := cmpz_b (Lc mh mn mdy mkd mfg mag mpo mwy) i c k
          refine x_iload C 0 rfl dX12_company_28 ?_
          refine x_iconst (v := 0) C dX12_company_30 ?_
          refine x_aload_n C 2 rfl rfl dX12_company_31 ?_
          refine x_get C in_X12_company_X12 0 rfl rfl 1 (by decide) (List.mem_of_getElem? (i := 2) rfl) rfl (v := .int (iN (mn))) rfl dX12_company_32 ?_
          refine x_ishl C ((pw mn : Nat) : Int) (iN_shlp hMn) dX12_company_35 ?_
          refine x_icmp_ge C 100 (by decide) (by omega) dX12_company_36 (fun c_36 => ?_) (fun c_36 => ?_)
          · refine x_iload_n C 1 rfl rfl dX12_company_100 ?_
            exact hret _ _ _ _ dX12_company_101 rfl ⟨(by unfold q_company; rw [if_pos (show q_one (Lc mh mn mdy mkd mfg mag mpo mwy) i ∧ q_cell c from (show (0 ≤ i ∧ i ≤ mn - 1) ∧ 0 ≤ c ∧ c ≤ 14 by omega)), e3_28]; show _ = cmpz (Lc mh mn mdy mkd mfg mag mpo mwy) i c (pw mn); rw [show k = pw mn by omega]), Wk.mk⟩
          · refine x_iload_n C 1 rfl rfl dX12_company_39 ?_
            have LP60 : ∀ (s0_60 : Int), (s0_60 = (if v3_28 < 0 ∨ (pc6 k : Int) < (pc6 v3_28.toNat : Int) then 1 else 0)) → Wx X 0 0 (WM X.γ a mh mn mkd mfg mag mpo mwy mdy mhw mkk mkf mrs mrm mrw 0 0 G mwa mre mpl mib msn mpn mlo mtl KE mim mhi P0 TK KY mun msd mbe) 60 [(4, .int (iN ((k : Int)))), (3, .int (iN (v3_28))), (0, .ref (a 0)), (1, .int (iN (i))), (2, .int (iN (c)))] [.int (iN (s0_60))] := by
              intro s0_60 es0_60
              refine x_istore C [(5, .int (iN (s0_60))), (4, .int (iN ((k : Int)))), (3, .int (iN (v3_28))), (0, .ref (a 0)), (1, .int (iN (i))), (2, .int (iN (c)))] (by decide) rfl dX12_company_60 ?_
              refine x_iload C 0 rfl dX12_company_62 ?_
              refine x_if_eq C 92 (by decide) (by omega) dX12_company_64 (fun c_64 => ?_) (fun c_64 => ?_)
              · refine x_iload_n C 2 rfl rfl dX12_company_92 ?_
                refine x_istore_n C [(3, .int (iN (v3_28))), (5, .int (iN (s0_60))), (4, .int (iN ((k : Int)))), (0, .ref (a 0)), (1, .int (iN (i))), (2, .int (iN (c)))] rfl (by decide) rfl dX12_company_93 ?_
                refine x_iinc C 2 [(4, .int (iN ((k : Int) + 1))), (3, .int (iN (v3_28))), (5, .int (iN (s0_60))), (0, .ref (a 0)), (1, .int (iN (i))), (2, .int (iN (c)))] rfl rfl (by decide) rfl dX12_company_94 ?_
                refine x_goto C 28 (by decide) dX12_company_97 ?_
                refine Wx.subL [0, 1, 3, 4, 5] rfl ?_
                exact ih28 (k + 1) (G) (KE) (P0) (TK) (KY) _ _ (by omega) (by omega) (by omega) (by simp only [cmpz]; rw [← e3_28, if_neg (fun z => absurd z.1 (by omega))])
              · refine x_iload C 1 rfl dX12_company_67 ?_
                refine x_iload_n C 4 rfl rfl dX12_company_69 ?_
                refine x_S_I C (As := [.int (iN ((k : Int))), .int (iN (i))]) (rest := []) 2 gX12_company_X12_hasBit (c_X12_hasBit _ _ (WM X.γ a mh mn mkd mfg mag mpo mwy mdy mhw mkk mkf mrs mrm mrw 0 0 G mwa mre mpl mib msn mpn mlo mtl KE mim mhi P0 TK KY mun msd mbe) ((k : Int)) (i) (by omega) (by omega)) rfl ok_X12_hasBit rfl rfl rfl rfl dX12_company_70 (fun r w1 hp => ?_)
                obtain ⟨rfl, rfl⟩ := hp
                refine x_ifne_bz C 92 (by decide) dX12_company_73 (fun c_73 => ?_) (fun c_73 => ?_)
                · refine x_iload_n C 2 rfl rfl dX12_company_92 ?_
                  refine x_istore_n C [(3, .int (iN (v3_28))), (5, .int (iN (s0_60))), (4, .int (iN ((k : Int)))), (0, .ref (a 0)), (1, .int (iN (i))), (2, .int (iN (c)))] rfl (by decide) rfl dX12_company_93 ?_
                  refine x_iinc C 2 [(4, .int (iN ((k : Int) + 1))), (3, .int (iN (v3_28))), (5, .int (iN (s0_60))), (0, .ref (a 0)), (1, .int (iN (i))), (2, .int (iN (c)))] rfl rfl (by decide) rfl dX12_company_94 ?_
                  refine x_goto C 28 (by decide) dX12_company_97 ?_
                  refine Wx.subL [0, 1, 3, 4, 5] rfl ?_
                  exact ih28 (k + 1) (G) (KE) (P0) (TK) (KY) _ _ (by omega) (by omega) (by omega) (by simp only [cmpz]; rw [← e3_28, if_neg (fun z => z.2.1 c_73)])
                · refine x_aload_n C 3 rfl rfl dX12_company_76 ?_
                  refine x_iload_n C 4 rfl rfl dX12_company_77 ?_
                  refine x_iload C 1 rfl dX12_company_78 ?_
                  refine x_iload_n C 5 rfl rfl dX12_company_80 ?_
                  refine x_V_I C (As := [.int (iN (i)), .int (iN ((k : Int))), .int (iN (c))]) (rest := []) 3 0 rfl rfl gX12_company_X12_getsTo rfl (c_X12_getsTo _ _ a mh mn mkd mfg mag mpo mwy mdy mhw mkk mkf mrs mrm mrw 0 G mwa mre mpl mib msn mpn mlo mtl KE mim mhi P0 TK KY mun msd mbe hM (i) ((k : Int)) (c) (by omega) (by omega) (by omega)) rfl ok_X12_getsTo rfl rfl rfl rfl dX12_company_81 (fun r w1 hp => ?_)
                  obtain ⟨Gb115, rfl, rfl⟩ := hp
                  refine x_ifeq_bz C 92 (by decide) dX12_company_84 (fun c_84 => ?_) (fun c_84 => ?_)
                  · refine x_iload_n C 2 rfl rfl dX12_company_92 ?_
                    refine x_istore_n C [(3, .int (iN (v3_28))), (5, .int (iN (s0_60))), (4, .int (iN ((k : Int)))), (0, .ref (a 0)), (1, .int (iN (i))), (2, .int (iN (c)))] rfl (by decide) rfl dX12_company_93 ?_
                    refine x_iinc C 2 [(4, .int (iN ((k : Int) + 1))), (3, .int (iN (v3_28))), (5, .int (iN (s0_60))), (0, .ref (a 0)), (1, .int (iN (i))), (2, .int (iN (c)))] rfl rfl (by decide) rfl dX12_company_94 ?_
                    refine x_goto C 28 (by decide) dX12_company_97 ?_
                    refine Wx.subL [0, 1, 3, 4, 5] rfl ?_
                    exact ih28 (k + 1) (Gb115) (pck mh mn mdy mkd mfg mag mpo mwy) (47) (0) ((.ref (a 18))) _ _ (by omega) (by omega) (by omega) (by simp only [cmpz]; rw [← e3_28, if_neg (fun z => c_84 z.2.2)])
                  · refine x_iload C 1 rfl dX12_company_87 ?_
                    refine x_goto C 93 (by decide) dX12_company_89 ?_
                    refine x_istore_n C [(3, .int (iN ((k : Int)))), (5, .int (iN (s0_60))), (4, .int (iN ((k : Int)))), (0, .ref (a 0)), (1, .int (iN (i))), (2, .int (iN (c)))] rfl (by decide) rfl dX12_company_93 ?_
                    refine x_iinc C 2 [(4, .int (iN ((k : Int) + 1))), (3, .int (iN ((k : Int)))), (5, .int (iN (s0_60))), (0, .ref (a 0)), (1, .int (iN (i))), (2, .int (iN (c)))] rfl rfl (by decide) rfl dX12_company_94 ?_
                    refine x_goto C 28 (by decide) dX12_company_97 ?_
                    refine Wx.subL [0, 1, 3, 4, 5] rfl ?_
                    exact ih28 (k + 1) (Gb115) (pck mh mn mdy mkd mfg mag mpo mwy) (47) (0) ((.ref (a 18))) _ _ (by omega) (by omega) (by omega) (by simp only [cmpz]; rw [← e3_28, if_pos ⟨(by omega), c_73, c_84⟩])
            refine x_if_lt C 55 (by decide) (by omega) dX12_company_40 (fun c_40 => ?_) (fun c_40 => ?_)
            · refine x_iconst (v := 0) C dX12_company_55 ?_
              refine x_goto C 60 (by decide) dX12_company_56 ?_
              exact LP60 _ (by omega)
            · refine x_iload C 0 rfl dX12_company_43 ?_
              refine x_S_I C (As := [.int (iN ((k : Int)))]) (rest := []) 1 gX12_company_X12_onesOf (c_X12_onesOf _ _ (WM X.γ a mh mn mkd mfg mag mpo mwy mdy mhw mkk mkf mrs mrm mrw 0 0 G mwa mre mpl mib msn mpn mlo mtl KE mim mhi P0 TK KY mun msd mbe) ((k : Int)) (by omega)) rfl ok_X12_onesOf rfl rfl rfl rfl dX12_company_45 (fun r w1 hp => ?_)
              obtain ⟨rfl, rfl⟩ := hp
              show Wx X 0 0 (WM X.γ a mh mn mkd mfg mag mpo mwy mdy mhw mkk mkf mrs mrm mrw 0 0 G mwa mre mpl mib msn mpn mlo mtl KE mim mhi P0 TK KY mun msd mbe) 48 [(4, .int (iN ((k : Int)))), (3, .int (iN (v3_28))), (0, .ref (a 0)), (1, .int (iN (i))), (2, .int (iN (c)))] [.int (iN ((pc6 ((k : Int)).toNat : Int)))]
              refine x_iload_n C 1 rfl rfl dX12_company_48 ?_
              refine x_S_I C (As := [.int (iN (v3_28))]) (rest := [.int (iN ((pc6 ((k : Int)).toNat : Int)))]) 1 gX12_company_X12_onesOf (c_X12_onesOf _ _ (WM X.γ a mh mn mkd mfg mag mpo mwy mdy mhw mkk mkf mrs mrm mrw 0 0 G mwa mre mpl mib msn mpn mlo mtl KE mim mhi P0 TK KY mun msd mbe) (v3_28) (by omega)) rfl ok_X12_onesOf rfl rfl rfl rfl dX12_company_49 (fun r w1 hp => ?_)
              obtain ⟨rfl, rfl⟩ := hp
              show Wx X 0 0 (WM X.γ a mh mn mkd mfg mag mpo mwy mdy mhw mkk mkf mrs mrm mrw 0 0 G mwa mre mpl mib msn mpn mlo mtl KE mim mhi P0 TK KY mun msd mbe) 52 [(4, .int (iN ((k : Int)))), (3, .int (iN (v3_28))), (0, .ref (a 0)), (1, .int (iN (i))), (2, .int (iN (c)))] [.int (iN ((pc6 v3_28.toNat : Int))), .int (iN ((pc6 ((k : Int)).toNat : Int)))]
              rw [show (pc6 ((k : Int)).toNat : Int) = (pc6 k : Int) from by rw [Int.toNat_natCast]]
              have p61 : pc6 k ≤ 6 := by unfold pc6; omega
              have p62 : pc6 v3_28.toNat ≤ 6 := by unfold pc6; omega
              refine x_icmp_ge C 59 (by decide) (by omega) dX12_company_52 (fun c_52 => ?_) (fun c_52 => ?_)
              · refine x_iconst (v := 0) C dX12_company_59 ?_
                exact LP60 _ (by omega)
              · refine x_iconst (v := 0) C dX12_company_55 ?_
                refine x_goto C 60 (by decide) dX12_company_56 ?_
                exact LP60 _ (by omega)
      exact LP28 ((pw mn - (0)) + 1) (0) (mgr) (mke) (mp0) (mtk) (mki) _ _ (by omega) (by omega) (by omega) (rfl)
    · refine x_iconst (v := 0) C dX12_company_20 ?_
      exact hret _ _ _ _ dX12_company_21 rfl ⟨(by unfold q_company; rw [if_neg (show ¬ (q_one (Lc mh mn mdy mkd mfg mag mpo mwy) i ∧ q_cell c) from (show ¬ ((0 ≤ i ∧ i ≤ mn - 1) ∧ 0 ≤ c ∧ c ≤ 14) by omega))]), Wk.mk⟩
end HGO2
