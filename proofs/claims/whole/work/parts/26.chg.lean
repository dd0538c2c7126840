section HCHG
theorem in_X12_raises_X12 : ∀ w ∈ u_ws RX12 TX12 34, w ∈ wsX12_raises := by decide +kernel
theorem ok_X12_raises : okY yX12_raises 2 := by decide +kernel
def rmX12_raises : Room := { frames := 2, cells := 0, slots := 0, locals := 45 }
set_option maxRecDepth 100000 in
set_option maxHeartbeats 400000 in
theorem c_X12_raises (l : Launch) (γ : GX) (a : Nat → Nat) (mh : Int → Int) (mn : Int) (mkd : Int → Int) (mfg : Int → Int) (mag : Int → Int) (mpo : Int → Int) (mwy : Int → Int) (mdy : Int) (mhw : Int → Int) (mkk : Int → Int) (mkf : Int → Int) (mrs : Int → Int) (mrm : Int → Int) (mrw : Int → Int) (mth : Int) (mgr : Int → Int) (mwa : Int → Int) (mre : Int) (mpl : Int) (mib : Int) (msn : Int) (mpn : Int → Int) (mlo : Int → Int) (mtl : Int → Int) (mke : Int → Int) (mim : Int → Int) (mhi : Int) (mp0 : Int) (mtk : Int) (mki : Value) (mun : Int → Int) (msd : Int) (mbe : Int → Int) (hM : WFm mn mh mkd mfg mag mpo mwy mhw mkk mkf mrs mrm mrw) (c : Int) (v : Int) (h0_ : -2147483648 ≤ c ∧ c < 2147483648) (h1_ : -2147483648 ≤ v ∧ v < 2147483648) : MI l γ yX12_raises wsX12_raises rmX12_raises [.ref (a 0), .int (iN (c)), .int (iN (v))] (WM γ a mh mn mkd mfg mag mpo mwy mdy mhw mkk mkf mrs mrm mrw mth 0 mgr mwa mre mpl mib msn mpn mlo mtl mke mim mhi mp0 mtk mki mun msd mbe) (fun r_ w_ => (((0 ≤ c ∧ c ≤ 14) ∧ 0 ≤ v ∧ v ≤ 20) ∧ r_ = mh c ∧ Wk γ a (upz mh c v) mn mkd mfg mag mpo mwy mdy mhw mkk mkf mrs mrm mrw 0 mim mhi w_) ∨ (¬ ((0 ≤ c ∧ c ≤ 14) ∧ 0 ≤ v ∧ v ≤ 20) ∧ r_ = -1 ∧ Wk γ a mh mn mkd mfg mag mpo mwy mdy mhw mkk mkf mrs mrm mrw 0 mim mhi w_)) 0 0 := by
  refine MI.of (cc := cX12_raises) (maxL := 4) (rt := .int) RX12 rfl (by decide +kernel) rfl (Nat.le_of_ble_eq_true rfl) ?_
  intro X C hγ hl hnm hret
  subst hγ
  have hMn := WFm.n hM
  show Wx X 0 0 (WM X.γ a mh mn mkd mfg mag mpo mwy mdy mhw mkk mkf mrs mrm mrw mth 0 mgr mwa mre mpl mib msn mpn mlo mtl mke mim mhi mp0 mtk mki mun msd mbe) 0 [(0, .ref (a 0)), (1, .int (iN (c))), (2, .int (iN (v)))] []
  refine x_aload_n C 0 rfl rfl dX12_raises_0 ?_
  refine x_iconst (v := 0) C dX12_raises_1 ?_
  refine x_put C in_X12_raises_X12 tyX12 tyX12_ok nmX12 0 rfl rfl 14 (by decide) (List.mem_of_getElem? (i := 1) rfl) rfl rfl rfl rfl rfl (Nat.le_of_ble_eq_true rfl) (WM X.γ a mh mn mkd mfg mag mpo mwy mdy mhw mkk mkf mrs mrm mrw 0 0 mgr mwa mre mpl mib msn mpn mlo mtl mke mim mhi mp0 mtk mki mun msd mbe) rfl dX12_raises_2 ?_
  refine x_iload_n C 1 rfl rfl dX12_raises_5 ?_
  refine x_S_I C (As := [.int (iN (c))]) (rest := []) 1 gX12_raises_X12_isCell (c_X12_isCell _ _ (WM X.γ a mh mn mkd mfg mag mpo mwy mdy mhw mkk mkf mrs mrm mrw 0 0 mgr mwa mre mpl mib msn mpn mlo mtl mke mim mhi mp0 mtk mki mun msd mbe) (c) (by omega)) rfl ok_X12_isCell rfl rfl rfl rfl dX12_raises_6 (fun r w1 hp => ?_)
  obtain ⟨rfl, rfl⟩ := hp
  refine x_ifeq_bz C 24 (by decide) dX12_raises_9 (fun c_9 => ?_) (fun c_9 => ?_)
  · refine x_iconst (v := 0) C dX12_raises_24 ?_
    exact hret _ _ _ _ dX12_raises_25 rfl (Or.inr ⟨(by omega), rfl, Wk.mk⟩)
  · refine x_iload_n C 2 rfl rfl dX12_raises_12 ?_
    refine x_i2l C (by omega) dX12_raises_13 ?_
    refine x_lconst C 0 rfl dX12_raises_14 ?_
    refine x_ldc2 C (20) (List.mem_of_getElem? (i := 2) rfl) (by decide) dX12_raises_15 ?_
    refine x_S_I C (As := [.long (jN (v)), .long (jN (0)), .long (jN (20))]) (rest := []) 3 gX12_raises_X12_in (c_X12_in _ _ (WM X.γ a mh mn mkd mfg mag mpo mwy mdy mhw mkk mkf mrs mrm mrw 0 0 mgr mwa mre mpl mib msn mpn mlo mtl mke mim mhi mp0 mtk mki mun msd mbe) (v) (0) (20) (by omega) (by omega) (by omega)) rfl ok_X12_in rfl rfl rfl rfl dX12_raises_18 (fun r w1 hp => ?_)
    obtain ⟨rfl, rfl⟩ := hp
    refine x_ifne_bz C 26 (by decide) dX12_raises_21 (fun c_21 => ?_) (fun c_21 => ?_)
    · refine x_aload_n C 0 rfl rfl dX12_raises_26 ?_
      refine x_get C in_X12_raises_X12 0 rfl rfl 0 (by decide) (List.mem_of_getElem? (i := 3) rfl) rfl (v := .ref (a 1)) rfl dX12_raises_27 ?_
      refine x_iload_n C 1 rfl rfl dX12_raises_30 ?_
      refine x_iaload C (f := mh) 1 rfl (by omega) rfl dX12_raises_31 ?_
      have b80 := WFm.h hM (c)
      refine x_istore_n C [(3, .int (iN (mh c))), (0, .ref (a 0)), (1, .int (iN (c))), (2, .int (iN (v)))] rfl (by decide) rfl dX12_raises_32 ?_
      refine x_aload_n C 1 rfl rfl dX12_raises_33 ?_
      refine x_get C in_X12_raises_X12 0 rfl rfl 0 (by decide) (List.mem_of_getElem? (i := 3) rfl) rfl (v := .ref (a 1)) rfl dX12_raises_34 ?_
      refine x_iload_n C 2 rfl rfl dX12_raises_37 ?_
      refine x_iload_n C 3 rfl rfl dX12_raises_38 ?_
      refine x_iastore C (f := mh) 1 rfl (by omega) rfl (WM X.γ a (upz mh c v) mn mkd mfg mag mpo mwy mdy mhw mkk mkf mrs mrm mrw 0 0 mgr mwa mre mpl mib msn mpn mlo mtl mke mim mhi mp0 mtk mki mun msd mbe) rfl dX12_raises_39 ?_
      refine x_iload_n C 0 rfl rfl dX12_raises_40 ?_
      exact hret _ _ _ _ dX12_raises_41 rfl (Or.inl ⟨(by omega), rfl, Wk.mk⟩)
    · refine x_iconst (v := 0) C dX12_raises_24 ?_
      exact hret _ _ _ _ dX12_raises_25 rfl (Or.inr ⟨(by omega), rfl, Wk.mk⟩)
theorem in_X12_moves_X12 : ∀ w ∈ u_ws RX12 TX12 34, w ∈ wsX12_moves := by decide +kernel
theorem ok_X12_moves : okY yX12_moves 2 := by decide +kernel
def rmX12_moves : Room := { frames := 2, cells := 0, slots := 0, locals := 46 }
set_option maxRecDepth 100000 in
set_option maxHeartbeats 400000 in
theorem c_X12_moves (l : Launch) (γ : GX) (a : Nat → Nat) (mh : Int → Int) (mn : Int) (mkd : Int → Int) (mfg : Int → Int) (mag : Int → Int) (mpo : Int → Int) (mwy : Int → Int) (mdy : Int) (mhw : Int → Int) (mkk : Int → Int) (mkf : Int → Int) (mrs : Int → Int) (mrm : Int → Int) (mrw : Int → Int) (mth : Int) (mgr : Int → Int) (mwa : Int → Int) (mre : Int) (mpl : Int) (mib : Int) (msn : Int) (mpn : Int → Int) (mlo : Int → Int) (mtl : Int → Int) (mke : Int → Int) (mim : Int → Int) (mhi : Int) (mp0 : Int) (mtk : Int) (mki : Value) (mun : Int → Int) (msd : Int) (mbe : Int → Int) (hM : WFm mn mh mkd mfg mag mpo mwy mhw mkk mkf mrs mrm mrw) (i : Int) (c : Int) (h0_ : -2147483648 ≤ i ∧ i < 2147483648) (h1_ : -2147483648 ≤ c ∧ c < 2147483648) : MI l γ yX12_moves wsX12_moves rmX12_moves [.ref (a 0), .int (iN (i)), .int (iN (c))] (WM γ a mh mn mkd mfg mag mpo mwy mdy mhw mkk mkf mrs mrm mrw mth 0 mgr mwa mre mpl mib msn mpn mlo mtl mke mim mhi mp0 mtk mki mun msd mbe) (fun r_ w_ => (((0 ≤ i ∧ i ≤ mn - 1) ∧ 0 ≤ c ∧ c ≤ 14) ∧ r_ = mpo i ∧ Wk γ a mh mn mkd mfg mag (upz mpo i c) mwy mdy mhw mkk mkf mrs mrm mrw 0 mim mhi w_) ∨ (¬ ((0 ≤ i ∧ i ≤ mn - 1) ∧ 0 ≤ c ∧ c ≤ 14) ∧ r_ = -1 ∧ Wk γ a mh mn mkd mfg mag mpo mwy mdy mhw mkk mkf mrs mrm mrw 0 mim mhi w_)) 0 0 := by
  refine MI.of (cc := cX12_moves) (maxL := 4) (rt := .int) RX12 rfl (by decide +kernel) rfl (Nat.le_of_ble_eq_true rfl) ?_
  intro X C hγ hl hnm hret
  subst hγ
  have hMn := WFm.n hM
  show Wx X 0 0 (WM X.γ a mh mn mkd mfg mag mpo mwy mdy mhw mkk mkf mrs mrm mrw mth 0 mgr mwa mre mpl mib msn mpn mlo mtl mke mim mhi mp0 mtk mki mun msd mbe) 0 [(0, .ref (a 0)), (1, .int (iN (i))), (2, .int (iN (c)))] []
  refine x_aload_n C 0 rfl rfl dX12_moves_0 ?_
  refine x_iconst (v := 0) C dX12_moves_1 ?_
  refine x_put C in_X12_moves_X12 tyX12 tyX12_ok nmX12 0 rfl rfl 14 (by decide) (List.mem_of_getElem? (i := 1) rfl) rfl rfl rfl rfl rfl (Nat.le_of_ble_eq_true rfl) (WM X.γ a mh mn mkd mfg mag mpo mwy mdy mhw mkk mkf mrs mrm mrw 0 0 mgr mwa mre mpl mib msn mpn mlo mtl mke mim mhi mp0 mtk mki mun msd mbe) rfl dX12_moves_2 ?_
  refine x_aload_n C 0 rfl rfl dX12_moves_5 ?_
  refine x_iload_n C 1 rfl rfl dX12_moves_6 ?_
  refine x_V_I C (As := [.int (iN (i))]) (rest := []) 1 0 rfl rfl gX12_moves_X12_isOne rfl (c_X12_isOne _ _ a mh mn mkd mfg mag mpo mwy mdy mhw mkk mkf mrs mrm mrw 0 0 mgr mwa mre mpl mib msn mpn mlo mtl mke mim mhi mp0 mtk mki mun msd mbe hM (i) (by omega)) rfl ok_X12_isOne rfl rfl rfl rfl dX12_moves_7 (fun r w1 hp => ?_)
  obtain ⟨rfl, rfl⟩ := hp
  refine x_ifeq_bz C 20 (by decide) dX12_moves_10 (fun c_10 => ?_) (fun c_10 => ?_)
  · refine x_iconst (v := 0) C dX12_moves_20 ?_
    exact hret _ _ _ _ dX12_moves_21 rfl (Or.inr ⟨(by omega), rfl, Wk.mk⟩)
  · refine x_iload_n C 2 rfl rfl dX12_moves_13 ?_
    refine x_S_I C (As := [.int (iN (c))]) (rest := []) 1 gX12_moves_X12_isCell (c_X12_isCell _ _ (WM X.γ a mh mn mkd mfg mag mpo mwy mdy mhw mkk mkf mrs mrm mrw 0 0 mgr mwa mre mpl mib msn mpn mlo mtl mke mim mhi mp0 mtk mki mun msd mbe) (c) (by omega)) rfl ok_X12_isCell rfl rfl rfl rfl dX12_moves_14 (fun r w1 hp => ?_)
    obtain ⟨rfl, rfl⟩ := hp
    refine x_ifne_bz C 22 (by decide) dX12_moves_17 (fun c_17 => ?_) (fun c_17 => ?_)
    · refine x_aload_n C 0 rfl rfl dX12_moves_22 ?_
      refine x_get C in_X12_moves_X12 0 rfl rfl 5 (by decide) (List.mem_of_getElem? (i := 2) rfl) rfl (v := .ref (a 5)) rfl dX12_moves_23 ?_
      refine x_iload_n C 1 rfl rfl dX12_moves_26 ?_
      refine x_iaload C (f := mpo) 5 rfl (by omega) rfl dX12_moves_27 ?_
      have b81 := WFm.po hM (i)
      refine x_istore_n C [(3, .int (iN (mpo i))), (0, .ref (a 0)), (1, .int (iN (i))), (2, .int (iN (c)))] rfl (by decide) rfl dX12_moves_28 ?_
      refine x_aload_n C 1 rfl rfl dX12_moves_29 ?_
      refine x_get C in_X12_moves_X12 0 rfl rfl 5 (by decide) (List.mem_of_getElem? (i := 2) rfl) rfl (v := .ref (a 5)) rfl dX12_moves_30 ?_
      refine x_iload_n C 2 rfl rfl dX12_moves_33 ?_
      refine x_iload_n C 3 rfl rfl dX12_moves_34 ?_
      refine x_iastore C (f := mpo) 5 rfl (by omega) rfl (WM X.γ a mh mn mkd mfg mag (upz mpo i c) mwy mdy mhw mkk mkf mrs mrm mrw 0 0 mgr mwa mre mpl mib msn mpn mlo mtl mke mim mhi mp0 mtk mki mun msd mbe) rfl dX12_moves_35 ?_
      refine x_iload_n C 0 rfl rfl dX12_moves_36 ?_
      exact hret _ _ _ _ dX12_moves_37 rfl (Or.inl ⟨(by omega), rfl, Wk.mk⟩)
    · refine x_iconst (v := 0) C dX12_moves_20 ?_
      exact hret _ _ _ _ dX12_moves_21 rfl (Or.inr ⟨(by omega), rfl, Wk.mk⟩)
theorem in_X12_turns_X12 : ∀ w ∈ u_ws RX12 TX12 34, w ∈ wsX12_turns := by decide +kernel
theorem ok_X12_turns : okY yX12_turns 2 := by decide +kernel
def rmX12_turns : Room := { frames := 2, cells := 0, slots := 0, locals := 46 }
set_option maxRecDepth 100000 in
set_option maxHeartbeats 400000 in
theorem c_X12_turns (l : Launch) (γ : GX) (a : Nat → Nat) (mh : Int → Int) (mn : Int) (mkd : Int → Int) (mfg : Int → Int) (mag : Int → Int) (mpo : Int → Int) (mwy : Int → Int) (mdy : Int) (mhw : Int → Int) (mkk : Int → Int) (mkf : Int → Int) (mrs : Int → Int) (mrm : Int → Int) (mrw : Int → Int) (mth : Int) (mgr : Int → Int) (mwa : Int → Int) (mre : Int) (mpl : Int) (mib : Int) (msn : Int) (mpn : Int → Int) (mlo : Int → Int) (mtl : Int → Int) (mke : Int → Int) (mim : Int → Int) (mhi : Int) (mp0 : Int) (mtk : Int) (mki : Value) (mun : Int → Int) (msd : Int) (mbe : Int → Int) (hM : WFm mn mh mkd mfg mag mpo mwy mhw mkk mkf mrs mrm mrw) (i : Int) (t : Int) (h0_ : -2147483648 ≤ i ∧ i < 2147483648) (h1_ : -2147483648 ≤ t ∧ t < 2147483648) : MI l γ yX12_turns wsX12_turns rmX12_turns [.ref (a 0), .int (iN (i)), .int (iN (t))] (WM γ a mh mn mkd mfg mag mpo mwy mdy mhw mkk mkf mrs mrm mrw mth 0 mgr mwa mre mpl mib msn mpn mlo mtl mke mim mhi mp0 mtk mki mun msd mbe) (fun r_ w_ => (((0 ≤ i ∧ i ≤ mn - 1) ∧ 0 ≤ t ∧ t ≤ 2) ∧ r_ = q_wy (mwy i) ∧ Wk γ a mh mn mkd mfg mag mpo (upz mwy i (if t = 0 then 0 else if t = 1 then -1 else 1)) mdy mhw mkk mkf mrs mrm mrw 0 mim mhi w_) ∨ (¬ ((0 ≤ i ∧ i ≤ mn - 1) ∧ 0 ≤ t ∧ t ≤ 2) ∧ r_ = -1 ∧ Wk γ a mh mn mkd mfg mag mpo mwy mdy mhw mkk mkf mrs mrm mrw 0 mim mhi w_)) 0 0 := by
  refine MI.of (cc := cX12_turns) (maxL := 4) (rt := .int) RX12 rfl (by decide +kernel) rfl (Nat.le_of_ble_eq_true rfl) ?_
  intro X C hγ hl hnm hret
  subst hγ
  have hMn := WFm.n hM
  show Wx X 0 0 (WM X.γ a mh mn mkd mfg mag mpo mwy mdy mhw mkk mkf mrs mrm mrw mth 0 mgr mwa mre mpl mib msn mpn mlo mtl mke mim mhi mp0 mtk mki mun msd mbe) 0 [(0, .ref (a 0)), (1, .int (iN (i))), (2, .int (iN (t)))] []
  refine x_aload_n C 0 rfl rfl dX12_turns_0 ?_
  refine x_iconst (v := 0) C dX12_turns_1 ?_
  refine x_put C in_X12_turns_X12 tyX12 tyX12_ok nmX12 0 rfl rfl 14 (by decide) (List.mem_of_getElem? (i := 1) rfl) rfl rfl rfl rfl rfl (Nat.le_of_ble_eq_true rfl) (WM X.γ a mh mn mkd mfg mag mpo mwy mdy mhw mkk mkf mrs mrm mrw 0 0 mgr mwa mre mpl mib msn mpn mlo mtl mke mim mhi mp0 mtk mki mun msd mbe) rfl dX12_turns_2 ?_
  refine x_aload_n C 0 rfl rfl dX12_turns_5 ?_
  refine x_iload_n C 1 rfl rfl dX12_turns_6 ?_
  refine x_V_I C (As := [.int (iN (i))]) (rest := []) 1 0 rfl rfl gX12_turns_X12_isOne rfl (c_X12_isOne _ _ a mh mn mkd mfg mag mpo mwy mdy mhw mkk mkf mrs mrm mrw 0 0 mgr mwa mre mpl mib msn mpn mlo mtl mke mim mhi mp0 mtk mki mun msd mbe hM (i) (by omega)) rfl ok_X12_isOne rfl rfl rfl rfl dX12_turns_7 (fun r w1 hp => ?_)
  obtain ⟨rfl, rfl⟩ := hp
  refine x_ifeq_bz C 25 (by decide) dX12_turns_10 (fun c_10 => ?_) (fun c_10 => ?_)
  · refine x_iconst (v := 0) C dX12_turns_25 ?_
    exact hret _ _ _ _ dX12_turns_26 rfl (Or.inr ⟨(by omega), rfl, Wk.mk⟩)
  · refine x_iload_n C 2 rfl rfl dX12_turns_13 ?_
    refine x_i2l C (by omega) dX12_turns_14 ?_
    refine x_lconst C 0 rfl dX12_turns_15 ?_
    refine x_ldc2 C (2) (List.mem_of_getElem? (i := 2) rfl) (by decide) dX12_turns_16 ?_
    refine x_S_I C (As := [.long (jN (t)), .long (jN (0)), .long (jN (2))]) (rest := []) 3 gX12_turns_X12_in (c_X12_in _ _ (WM X.γ a mh mn mkd mfg mag mpo mwy mdy mhw mkk mkf mrs mrm mrw 0 0 mgr mwa mre mpl mib msn mpn mlo mtl mke mim mhi mp0 mtk mki mun msd mbe) (t) (0) (2) (by omega) (by omega) (by omega)) rfl ok_X12_in rfl rfl rfl rfl dX12_turns_19 (fun r w1 hp => ?_)
    obtain ⟨rfl, rfl⟩ := hp
    refine x_ifne_bz C 27 (by decide) dX12_turns_22 (fun c_22 => ?_) (fun c_22 => ?_)
    · refine x_aload_n C 0 rfl rfl dX12_turns_27 ?_
      refine x_get C in_X12_turns_X12 0 rfl rfl 6 (by decide) (List.mem_of_getElem? (i := 3) rfl) rfl (v := .ref (a 6)) rfl dX12_turns_28 ?_
      refine x_iload_n C 1 rfl rfl dX12_turns_31 ?_
      refine x_iaload C (f := mwy) 6 rfl (by omega) rfl dX12_turns_32 ?_
      have b82 := WFm.wy hM (i)
      refine x_if_ne C 40 (by decide) (by omega) dX12_turns_33 (fun c_33 => ?_) (fun c_33 => ?_)
      · refine x_aload_n C 0 rfl rfl dX12_turns_40 ?_
        refine x_get C in_X12_turns_X12 0 rfl rfl 6 (by decide) (List.mem_of_getElem? (i := 3) rfl) rfl (v := .ref (a 6)) rfl dX12_turns_41 ?_
        refine x_iload_n C 1 rfl rfl dX12_turns_44 ?_
        refine x_iaload C (f := mwy) 6 rfl (by omega) rfl dX12_turns_45 ?_
        have b83 := WFm.wy hM (i)
        refine x_if_ge C 53 (by decide) (by omega) dX12_turns_46 (fun c_46 => ?_) (fun c_46 => ?_)
        · refine x_iconst (v := 0) C dX12_turns_53 ?_
          refine x_istore_n C [(3, .int (iN (2))), (0, .ref (a 0)), (1, .int (iN (i))), (2, .int (iN (t)))] rfl (by decide) rfl dX12_turns_54 ?_
          refine x_aload_n C 1 rfl rfl dX12_turns_55 ?_
          refine x_get C in_X12_turns_X12 0 rfl rfl 6 (by decide) (List.mem_of_getElem? (i := 3) rfl) rfl (v := .ref (a 6)) rfl dX12_turns_56 ?_
          refine x_iload_n C 2 rfl rfl dX12_turns_59 ?_
          refine x_iload_n C 3 rfl rfl dX12_turns_60 ?_
          refine x_S_I C (As := [.int (iN (t))]) (rest := [.int (iN (i)), .ref (a 6)]) 1 gX12_turns_X12_wayOf (c_X12_wayOf _ _ (WM X.γ a mh mn mkd mfg mag mpo mwy mdy mhw mkk mkf mrs mrm mrw 0 0 mgr mwa mre mpl mib msn mpn mlo mtl mke mim mhi mp0 mtk mki mun msd mbe) (t) (by omega)) rfl ok_X12_wayOf rfl rfl rfl rfl dX12_turns_61 (fun r w1 hp => ?_)
          obtain ⟨rfl, rfl⟩ := hp
          show Wx X 0 0 (WM X.γ a mh mn mkd mfg mag mpo mwy mdy mhw mkk mkf mrs mrm mrw 0 0 mgr mwa mre mpl mib msn mpn mlo mtl mke mim mhi mp0 mtk mki mun msd mbe) 64 [(3, .int (iN (2))), (0, .ref (a 0)), (1, .int (iN (i))), (2, .int (iN (t)))] [.int (iN (if t = 0 then 0 else if t = 1 then -1 else 1)), .int (iN (i)), .ref (a 6)]
          refine x_iastore C (f := mwy) 6 rfl (by omega) rfl (WM X.γ a mh mn mkd mfg mag mpo (upz mwy i (if t = 0 then 0 else if t = 1 then -1 else 1)) mdy mhw mkk mkf mrs mrm mrw 0 0 mgr mwa mre mpl mib msn mpn mlo mtl mke mim mhi mp0 mtk mki mun msd mbe) rfl dX12_turns_64 ?_
          refine x_iload_n C 0 rfl rfl dX12_turns_65 ?_
          exact hret _ _ _ _ dX12_turns_66 rfl (Or.inl ⟨(by omega), (by unfold q_wy; omega), Wk.mk⟩)
        · refine x_iconst (v := 0) C dX12_turns_49 ?_
          refine x_goto C 54 (by decide) dX12_turns_50 ?_
          refine x_istore_n C [(3, .int (iN (1))), (0, .ref (a 0)), (1, .int (iN (i))), (2, .int (iN (t)))] rfl (by decide) rfl dX12_turns_54 ?_
          refine x_aload_n C 1 rfl rfl dX12_turns_55 ?_
          refine x_get C in_X12_turns_X12 0 rfl rfl 6 (by decide) (List.mem_of_getElem? (i := 3) rfl) rfl (v := .ref (a 6)) rfl dX12_turns_56 ?_
          refine x_iload_n C 2 rfl rfl dX12_turns_59 ?_
          refine x_iload_n C 3 rfl rfl dX12_turns_60 ?_
          refine x_S_I C (As := [.int (iN (t))]) (rest := [.int (iN (i)), .ref (a 6)]) 1 gX12_turns_X12_wayOf (c_X12_wayOf _ _ (WM X.γ a mh mn mkd mfg mag mpo mwy mdy mhw mkk mkf mrs mrm mrw 0 0 mgr mwa mre mpl mib msn mpn mlo mtl mke mim mhi mp0 mtk mki mun msd mbe) (t) (by omega)) rfl ok_X12_wayOf rfl rfl rfl rfl dX12_turns_61 (fun r w1 hp => ?_)
          obtain ⟨rfl, rfl⟩ := hp
          show Wx X 0 0 (WM X.γ a mh mn mkd mfg mag mpo mwy mdy mhw mkk mkf mrs mrm mrw 0 0 mgr mwa mre mpl mib msn mpn mlo mtl mke mim mhi mp0 mtk mki mun msd mbe) 64 [(3, .int (iN (1))), (0, .ref (a 0)), (1, .int (iN (i))), (2, .int (iN (t)))] [.int (iN (if t = 0 then 0 else if t = 1 then -1 else 1)), .int (iN (i)), .ref (a 6)]
          refine x_iastore C (f := mwy) 6 rfl (by omega) rfl (WM X.γ a mh mn mkd mfg mag mpo (upz mwy i (if t = 0 then 0 else if t = 1 then -1 else 1)) mdy mhw mkk mkf mrs mrm mrw 0 0 mgr mwa mre mpl mib msn mpn mlo mtl mke mim mhi mp0 mtk mki mun msd mbe) rfl dX12_turns_64 ?_
          refine x_iload_n C 0 rfl rfl dX12_turns_65 ?_
          exact hret _ _ _ _ dX12_turns_66 rfl (Or.inl ⟨(by omega), (by unfold q_wy; omega), Wk.mk⟩)
      · refine x_iconst (v := 0) C dX12_turns_36 ?_
        refine x_goto C 54 (by decide) dX12_turns_37 ?_
        refine x_istore_n C [(3, .int (iN (0))), (0, .ref (a 0)), (1, .int (iN (i))), (2, .int (iN (t)))] rfl (by decide) rfl dX12_turns_54 ?_
        refine x_aload_n C 1 rfl rfl dX12_turns_55 ?_
        refine x_get C in_X12_turns_X12 0 rfl rfl 6 (by decide) (List.mem_of_getElem? (i := 3) rfl) rfl (v := .ref (a 6)) rfl dX12_turns_56 ?_
        refine x_iload_n C 2 rfl rfl dX12_turns_59 ?_
        refine x_iload_n C 3 rfl rfl dX12_turns_60 ?_
        refine x_S_I C (As := [.int (iN (t))]) (rest := [.int (iN (i)), .ref (a 6)]) 1 gX12_turns_X12_wayOf (c_X12_wayOf _ _ (WM X.γ a mh mn mkd mfg mag mpo mwy mdy mhw mkk mkf mrs mrm mrw 0 0 mgr mwa mre mpl mib msn mpn mlo mtl mke mim mhi mp0 mtk mki mun msd mbe) (t) (by omega)) rfl ok_X12_wayOf rfl rfl rfl rfl dX12_turns_61 (fun r w1 hp => ?_)
        obtain ⟨rfl, rfl⟩ := hp
        show Wx X 0 0 (WM X.γ a mh mn mkd mfg mag mpo mwy mdy mhw mkk mkf mrs mrm mrw 0 0 mgr mwa mre mpl mib msn mpn mlo mtl mke mim mhi mp0 mtk mki mun msd mbe) 64 [(3, .int (iN (0))), (0, .ref (a 0)), (1, .int (iN (i))), (2, .int (iN (t)))] [.int (iN (if t = 0 then 0 else if t = 1 then -1 else 1)), .int (iN (i)), .ref (a 6)]
        refine x_iastore C (f := mwy) 6 rfl (by omega) rfl (WM X.γ a mh mn mkd mfg mag mpo (upz mwy i (if t = 0 then 0 else if t = 1 then -1 else 1)) mdy mhw mkk mkf mrs mrm mrw 0 0 mgr mwa mre mpl mib msn mpn mlo mtl mke mim mhi mp0 mtk mki mun msd mbe) rfl dX12_turns_64 ?_
        refine x_iload_n C 0 rfl rfl dX12_turns_65 ?_
        exact hret _ _ _ _ dX12_turns_66 rfl (Or.inl ⟨(by omega), (by unfold q_wy; omega), Wk.mk⟩)
    · refine x_iconst (v := 0) C dX12_turns_25 ?_
      exact hret _ _ _ _ dX12_turns_26 rfl (Or.inr ⟨(by omega), rfl, Wk.mk⟩)
theorem in_X12_days_X12 : ∀ w ∈ u_ws RX12 TX12 34, w ∈ wsX12_days := by decide +kernel
theorem ok_X12_days : okY yX12_days 1 := by decide +kernel
def rmX12_days : Room := { frames := 8, cells := 0, slots := 0, locals := 177 }
set_option maxRecDepth 100000 in
set_option maxHeartbeats 400000 in
theorem c_X12_days (l : Launch) (γ : GX) (a : Nat → Nat) (mh : Int → Int) (mn : Int) (mkd : Int → Int) (mfg : Int → Int) (mag : Int → Int) (mpo : Int → Int) (mwy : Int → Int) (mdy : Int) (mhw : Int → Int) (mkk : Int → Int) (mkf : Int → Int) (mrs : Int → Int) (mrm : Int → Int) (mrw : Int → Int) (mth : Int) (mgr : Int → Int) (mwa : Int → Int) (mre : Int) (mpl : Int) (mib : Int) (msn : Int) (mpn : Int → Int) (mlo : Int → Int) (mtl : Int → Int) (mke : Int → Int) (mim : Int → Int) (mhi : Int) (mp0 : Int) (mtk : Int) (mki : Value) (mun : Int → Int) (msd : Int) (mbe : Int → Int) (hM : WFm mn mh mkd mfg mag mpo mwy mhw mkk mkf mrs mrm mrw) (m : Int) (h0_ : -2147483648 ≤ m ∧ m < 2147483648) (h1_ : 0 ≤ mdy ∧ mdy ≤ 999) : MI l γ yX12_days wsX12_days rmX12_days [.ref (a 0), .int (iN (m))] (WM γ a mh mn mkd mfg mag mpo mwy mdy mhw mkk mkf mrs mrm mrw mth 0 mgr mwa mre mpl mib msn mpn mlo mtl mke mim mhi mp0 mtk mki mun msd mbe) (fun r_ w_ => (((1 ≤ m ∧ m ≤ 60) ∧ mdy + m ≤ 999) ∧ r_ = Ct.allW (Ct.days (Lc mh mn mdy mkd mfg mag mpo mwy) m.toNat) ∧ Wk γ a mh mn mkd mfg mag (Ct.po (Ct.days (Lc mh mn mdy mkd mfg mag mpo mwy) m.toNat)) (Ct.wy (Ct.days (Lc mh mn mdy mkd mfg mag mpo mwy) m.toNat)) (Ct.dy (Ct.days (Lc mh mn mdy mkd mfg mag mpo mwy) m.toNat)) mhw mkk mkf mrs mrm mrw 0 mim mhi w_) ∨ ((1 ≤ m ∧ m ≤ 60) ∧ ¬ (mdy + m ≤ 999) ∧ r_ = -3 ∧ Wk γ a mh mn mkd mfg mag mpo mwy mdy mhw mkk mkf mrs mrm mrw 0 mim mhi w_) ∨ (¬ (1 ≤ m ∧ m ≤ 60) ∧ r_ = -1 ∧ Wk γ a mh mn mkd mfg mag mpo mwy mdy mhw mkk mkf mrs mrm mrw 0 mim mhi w_)) 0 0 := by
  refine MI.of (cc := cX12_days) (maxL := 2) (rt := .int) RX12 rfl (by decide +kernel) rfl (Nat.le_of_ble_eq_true rfl) ?_
  intro X C hγ hl hnm hret
  subst hγ
  have hMn := WFm.n hM
  show Wx X 0 0 (WM X.γ a mh mn mkd mfg mag mpo mwy mdy mhw mkk mkf mrs mrm mrw mth 0 mgr mwa mre mpl mib msn mpn mlo mtl mke mim mhi mp0 mtk mki mun msd mbe) 0 [(0, .ref (a 0)), (1, .int (iN (m)))] []
  refine x_aload_n C 0 rfl rfl dX12_days_0 ?_
  refine x_iconst (v := 0) C dX12_days_1 ?_
  refine x_put C in_X12_days_X12 tyX12 tyX12_ok nmX12 0 rfl rfl 14 (by decide) (List.mem_of_getElem? (i := 1) rfl) rfl rfl rfl rfl rfl (Nat.le_of_ble_eq_true rfl) (WM X.γ a mh mn mkd mfg mag mpo mwy mdy mhw mkk mkf mrs mrm mrw 0 0 mgr mwa mre mpl mib msn mpn mlo mtl mke mim mhi mp0 mtk mki mun msd mbe) rfl dX12_days_2 ?_
  refine x_iload_n C 1 rfl rfl dX12_days_5 ?_
  refine x_i2l C (by omega) dX12_days_6 ?_
  refine x_lconst C 1 rfl dX12_days_7 ?_
  refine x_ldc2 C (60) (List.mem_of_getElem? (i := 2) rfl) (by decide) dX12_days_8 ?_
  refine x_S_I C (As := [.long (jN (m)), .long (jN (1)), .long (jN (60))]) (rest := []) 3 gX12_days_X12_in (c_X12_in _ _ (WM X.γ a mh mn mkd mfg mag mpo mwy mdy mhw mkk mkf mrs mrm mrw 0 0 mgr mwa mre mpl mib msn mpn mlo mtl mke mim mhi mp0 mtk mki mun msd mbe) (m) (1) (60) (by omega) (by omega) (by omega)) rfl ok_X12_in rfl rfl rfl rfl dX12_days_11 (fun r w1 hp => ?_)
  obtain ⟨rfl, rfl⟩ := hp
  refine x_ifne_bz C 19 (by decide) dX12_days_14 (fun c_14 => ?_) (fun c_14 => ?_)
  · refine x_aload_n C 0 rfl rfl dX12_days_19 ?_
    refine x_iload_n C 1 rfl rfl dX12_days_20 ?_
    refine x_V_I C (As := [.int (iN (m))]) (rest := []) 1 0 rfl rfl gX12_days_X12_daysCome rfl (c_X12_daysCome _ _ a mh mn mkd mfg mag mpo mwy mdy mhw mkk mkf mrs mrm mrw 0 mgr mwa mre mpl mib msn mpn mlo mtl mke mim mhi mp0 mtk mki mun msd mbe hM (m) (by omega) (by omega)) rfl ok_X12_daysCome rfl rfl rfl rfl dX12_days_21 (fun r w1 hp => ?_)
    rcases hp with ⟨hp1, rfl, Gb84, rfl⟩ | ⟨hp1, rfl, rfl⟩
    · refine x_if_eq C 34 (by decide) (by decide) dX12_days_24 (fun z => absurd z (by decide)) (fun _ => ?_)
      refine x_aload_n C 0 rfl rfl dX12_days_27 ?_
      refine x_V_I C (As := []) (rest := []) 0 0 rfl rfl gX12_days_X12_allWater rfl (c_X12_allWater0 _ _ a mh mn mkd mfg mag (Ct.po (Ct.days (Lc mh mn mdy mkd mfg mag mpo mwy) (m).toNat)) (Ct.wy (Ct.days (Lc mh mn mdy mkd mfg mag mpo mwy) (m).toNat)) (Ct.dy (Ct.days (Lc mh mn mdy mkd mfg mag mpo mwy) (m).toNat)) mhw mkk mkf mrs mrm mrw 0 Gb84 mwa mre mpl mib msn mpn mlo mtl mke mim mhi mp0 mtk mki mun msd mbe (WFm.pw hM (Ct.days_wf (WFm.L hM mdy) (m).toNat).po (Ct.days_wf (WFm.L hM mdy) (m).toNat).wy)) rfl ok_X12_allWater rfl rfl rfl rfl dX12_days_28 (fun r w1 hp => ?_)
      obtain ⟨rfl, rfl⟩ := hp
      show Wx X 0 0 (WM X.γ a mh mn mkd mfg mag (Ct.po (Ct.days (Lc mh mn mdy mkd mfg mag mpo mwy) (m).toNat)) (Ct.wy (Ct.days (Lc mh mn mdy mkd mfg mag mpo mwy) (m).toNat)) (Ct.dy (Ct.days (Lc mh mn mdy mkd mfg mag mpo mwy) (m).toNat)) mhw mkk mkf mrs mrm mrw 0 0 (Ct.g (Lc mh mn (Ct.dy (Ct.days (Lc mh mn mdy mkd mfg mag mpo mwy) (m).toNat)) mkd mfg mag (Ct.po (Ct.days (Lc mh mn mdy mkd mfg mag mpo mwy) (m).toNat)) (Ct.wy (Ct.days (Lc mh mn mdy mkd mfg mag mpo mwy) (m).toNat)))) (Ct.w (Lc mh mn (Ct.dy (Ct.days (Lc mh mn mdy mkd mfg mag mpo mwy) (m).toNat)) mkd mfg mag (Ct.po (Ct.days (Lc mh mn mdy mkd mfg mag mpo mwy) (m).toNat)) (Ct.wy (Ct.days (Lc mh mn mdy mkd mfg mag mpo mwy) (m).toNat)))) mre mpl mib msn mpn mlo mtl mke mim mhi mp0 mtk mki mun msd mbe) 31 [(0, .ref (a 0)), (1, .int (iN (m)))] [.int (iN (Ct.allW (Lc mh mn (Ct.dy (Ct.days (Lc mh mn mdy mkd mfg mag mpo mwy) (m).toNat)) mkd mfg mag (Ct.po (Ct.days (Lc mh mn mdy mkd mfg mag mpo mwy) (m).toNat)) (Ct.wy (Ct.days (Lc mh mn mdy mkd mfg mag mpo mwy) (m).toNat)))))]
      have b85 := WFc.allW (WFm.L (WFm.pw hM (Ct.days_wf (WFm.L hM mdy) (m).toNat).po (Ct.days_wf (WFm.L hM mdy) (m).toNat).wy) (Ct.dy (Ct.days (Lc mh mn mdy mkd mfg mag mpo mwy) (m).toNat)))
      refine x_goto C 36 (by decide) dX12_days_31 ?_
      exact hret _ _ _ _ dX12_days_36 rfl (Or.inl ⟨(by omega), (by rw [show (Lc mh mn (Ct.dy (Ct.days (Lc mh mn mdy mkd mfg mag mpo mwy) (m).toNat)) mkd mfg mag (Ct.po (Ct.days (Lc mh mn mdy mkd mfg mag mpo mwy) (m).toNat)) (Ct.wy (Ct.days (Lc mh mn mdy mkd mfg mag mpo mwy) (m).toNat))) = (Ct.days (Lc mh mn mdy mkd mfg mag mpo mwy) m.toNat) from (Ct.days_same (Lc mh mn mdy mkd mfg mag mpo mwy) m.toNat).symm]), Wk.mk⟩)
    · refine x_if_eq C 34 (by decide) (by decide) dX12_days_24 (fun _ => ?_) (fun z => absurd z (by decide))
      refine x_bipush C (-3) (by decide) dX12_days_34 ?_
      exact hret _ _ _ _ dX12_days_36 rfl (Or.inr (Or.inl ⟨(by omega), (by omega), rfl, Wk.mk⟩))
  · refine x_iconst (v := 0) C dX12_days_17 ?_
    exact hret _ _ _ _ dX12_days_18 rfl (Or.inr (Or.inr ⟨(by omega), rfl, Wk.mk⟩))
theorem in_X12_comes_X12 : ∀ w ∈ u_ws RX12 TX12 34, w ∈ wsX12_comes := by decide +kernel
theorem ok_X12_comes : okY yX12_comes 3 := by decide +kernel
def rmX12_comes : Room := { frames := 3, cells := 0, slots := 0, locals := 70 }
set_option maxRecDepth 100000 in
set_option maxHeartbeats 400000 in
theorem c_X12_comes (l : Launch) (γ : GX) (a : Nat → Nat) (mh : Int → Int) (mn : Int) (mkd : Int → Int) (mfg : Int → Int) (mag : Int → Int) (mpo : Int → Int) (mwy : Int → Int) (mdy : Int) (mhw : Int → Int) (mkk : Int → Int) (mkf : Int → Int) (mrs : Int → Int) (mrm : Int → Int) (mrw : Int → Int) (mth : Int) (mgr : Int → Int) (mwa : Int → Int) (mre : Int) (mpl : Int) (mib : Int) (msn : Int) (mpn : Int → Int) (mlo : Int → Int) (mtl : Int → Int) (mke : Int → Int) (mim : Int → Int) (mhi : Int) (mp0 : Int) (mtk : Int) (mki : Value) (mun : Int → Int) (msd : Int) (mbe : Int → Int) (hM : WFm mn mh mkd mfg mag mpo mwy mhw mkk mkf mrs mrm mrw) (d : Int) (ag : Int) (cell : Int) (h0_ : -2147483648 ≤ d ∧ d < 2147483648) (h1_ : -2147483648 ≤ ag ∧ ag < 2147483648) (h2_ : -2147483648 ≤ cell ∧ cell < 2147483648) : MI l γ yX12_comes wsX12_comes rmX12_comes [.ref (a 0), .int (iN (d)), .int (iN (ag)), .int (iN (cell))] (WM γ a mh mn mkd mfg mag mpo mwy mdy mhw mkk mkf mrs mrm mrw mth 0 mgr mwa mre mpl mib msn mpn mlo mtl mke mim mhi mp0 mtk mki mun msd mbe) (fun r_ w_ => ((((0 ≤ ag ∧ ag ≤ 120) ∧ 0 ≤ cell ∧ cell ≤ 14) ∧ ((0 ≤ d ∧ d ≤ 7) ∧ mhw d = 1) ∧ mn < 6) ∧ r_ = mn ∧ Wk γ a mh (mn + 1) (upz mkd mn (mkk d)) (upz mfg mn (mkf d)) (upz mag mn ag) (upz mpo mn cell) (upz mwy mn 0) mdy mhw mkk mkf mrs mrm mrw 0 mim mhi w_) ∨ ((((0 ≤ ag ∧ ag ≤ 120) ∧ 0 ≤ cell ∧ cell ≤ 14) ∧ (0 ≤ d ∧ d ≤ 7) ∧ mhw d = 1) ∧ ¬ mn < 6 ∧ r_ = -2 ∧ Wk γ a mh mn mkd mfg mag mpo mwy mdy mhw mkk mkf mrs mrm mrw 0 mim mhi w_) ∨ (¬ (((0 ≤ ag ∧ ag ≤ 120) ∧ 0 ≤ cell ∧ cell ≤ 14) ∧ (0 ≤ d ∧ d ≤ 7) ∧ mhw d = 1) ∧ r_ = (if (0 ≤ ag ∧ ag ≤ 120) ∧ 0 ≤ cell ∧ cell ≤ 14 then (if 0 ≤ d ∧ d ≤ 7 then (if mhw d = 0 then -11 else if mhw d = 1 then 0 else -12) else -1) else -1) ∧ Wk γ a mh mn mkd mfg mag mpo mwy mdy mhw mkk mkf mrs mrm mrw 0 mim mhi w_)) 0 0 := by
  refine MI.of (cc := cX12_comes) (maxL := 5) (rt := .int) RX12 rfl (by decide +kernel) rfl (Nat.le_of_ble_eq_true rfl) ?_
  intro X C hγ hl hnm hret
  subst hγ
  have hMn := WFm.n hM
  show Wx X 0 0 (WM X.γ a mh mn mkd mfg mag mpo mwy mdy mhw mkk mkf mrs mrm mrw mth 0 mgr mwa mre mpl mib msn mpn mlo mtl mke mim mhi mp0 mtk mki mun msd mbe) 0 [(0, .ref (a 0)), (1, .int (iN (d))), (2, .int (iN (ag))), (3, .int (iN (cell)))] []
  refine x_aload_n C 0 rfl rfl dX12_comes_0 ?_
  refine x_iconst (v := 0) C dX12_comes_1 ?_
  refine x_put C in_X12_comes_X12 tyX12 tyX12_ok nmX12 0 rfl rfl 14 (by decide) (List.mem_of_getElem? (i := 1) rfl) rfl rfl rfl rfl rfl (Nat.le_of_ble_eq_true rfl) (WM X.γ a mh mn mkd mfg mag mpo mwy mdy mhw mkk mkf mrs mrm mrw 0 0 mgr mwa mre mpl mib msn mpn mlo mtl mke mim mhi mp0 mtk mki mun msd mbe) rfl dX12_comes_2 ?_
  refine x_iload_n C 2 rfl rfl dX12_comes_5 ?_
  refine x_i2l C (by omega) dX12_comes_6 ?_
  refine x_lconst C 0 rfl dX12_comes_7 ?_
  refine x_ldc2 C (120) (List.mem_of_getElem? (i := 2) rfl) (by decide) dX12_comes_8 ?_
  refine x_S_I C (As := [.long (jN (ag)), .long (jN (0)), .long (jN (120))]) (rest := []) 3 gX12_comes_X12_in (c_X12_in _ _ (WM X.γ a mh mn mkd mfg mag mpo mwy mdy mhw mkk mkf mrs mrm mrw 0 0 mgr mwa mre mpl mib msn mpn mlo mtl mke mim mhi mp0 mtk mki mun msd mbe) (ag) (0) (120) (by omega) (by omega) (by omega)) rfl ok_X12_in rfl rfl rfl rfl dX12_comes_11 (fun r w1 hp => ?_)
  obtain ⟨rfl, rfl⟩ := hp
  have LP33 : ∀ (s0_33 : Int), (s0_33 = (if (0 ≤ ag ∧ ag ≤ 120) ∧ 0 ≤ cell ∧ cell ≤ 14 then (if 0 ≤ d ∧ d ≤ 7 then (if mhw d = 0 then -11 else if mhw d = 1 then 0 else -12) else -1) else -1)) → Wx X 0 0 (WM X.γ a mh mn mkd mfg mag mpo mwy mdy mhw mkk mkf mrs mrm mrw 0 0 mgr mwa mre mpl mib msn mpn mlo mtl mke mim mhi mp0 mtk mki mun msd mbe) 33 [(0, .ref (a 0)), (1, .int (iN (d))), (2, .int (iN (ag))), (3, .int (iN (cell)))] [.int (iN (s0_33))] := by
    intro s0_33 es0_33
    refine x_istore C [(4, .int (iN (s0_33))), (0, .ref (a 0)), (1, .int (iN (d))), (2, .int (iN (ag))), (3, .int (iN (cell)))] (by decide) rfl dX12_comes_33 ?_
    refine x_iload C 0 rfl dX12_comes_35 ?_
    refine x_if_ge C 43 (by decide) (by omega) dX12_comes_37 (fun c_37 => ?_) (fun c_37 => ?_)
    · refine x_aload_n C 1 rfl rfl dX12_comes_43 ?_
      refine x_aload_n C 1 rfl rfl dX12_comes_44 ?_
      refine x_get C in_X12_comes_X12 0 rfl rfl 9 (by decide) (List.mem_of_getElem? (i := 3) rfl) rfl (v := .ref (a 8)) rfl dX12_comes_45 ?_
      refine x_iload_n C 2 rfl rfl dX12_comes_48 ?_
      refine x_iaload C (f := mkk) 8 rfl (by omega) rfl dX12_comes_49 ?_
      have b86 := WFm.kk hM (d)
      refine x_aload_n C 1 rfl rfl dX12_comes_50 ?_
      refine x_get C in_X12_comes_X12 0 rfl rfl 10 (by decide) (List.mem_of_getElem? (i := 4) rfl) rfl (v := .ref (a 9)) rfl dX12_comes_51 ?_
      refine x_iload_n C 2 rfl rfl dX12_comes_54 ?_
      refine x_iaload C (f := mkf) 9 rfl (by omega) rfl dX12_comes_55 ?_
      have b87 := WFm.kf hM (d)
      refine x_iload_n C 3 rfl rfl dX12_comes_56 ?_
      refine x_iload_n C 4 rfl rfl dX12_comes_57 ?_
      refine x_V_I C (As := [.int (iN (mkk d)), .int (iN (mkf d)), .int (iN (ag)), .int (iN (cell))]) (rest := []) 4 0 rfl rfl gX12_comes_X12_oneComes rfl (c_X12_oneComes _ _ a mh mn mkd mfg mag mpo mwy mdy mhw mkk mkf mrs mrm mrw 0 0 mgr mwa mre mpl mib msn mpn mlo mtl mke mim mhi mp0 mtk mki mun msd mbe hM (mkk d) (mkf d) (ag) (cell) (by omega) (by omega) (by omega) (by omega)) rfl ok_X12_oneComes rfl rfl rfl rfl dX12_comes_58 (fun r w1 hp => ?_)
      rcases hp with ⟨hp1, rfl, rfl⟩ | ⟨hp1, rfl, rfl⟩
      · refine x_if_eq C 73 (by decide) (by decide) dX12_comes_61 (fun z => absurd z (by decide)) (fun _ => ?_)
        refine x_aload_n C 1 rfl rfl dX12_comes_64 ?_
        refine x_get C in_X12_comes_X12 0 rfl rfl 1 (by decide) (List.mem_of_getElem? (i := 5) rfl) rfl (v := .int (iN (mn + 1))) rfl dX12_comes_65 ?_
        refine x_iconst (v := 0) C dX12_comes_68 ?_
        refine x_isub C dX12_comes_69 ?_
        refine x_goto C 75 (by decide) dX12_comes_70 ?_
        exact hret _ _ _ _ dX12_comes_75 rfl (Or.inl ⟨(by omega), (by omega), Wk.mk⟩)
      · refine x_if_eq C 73 (by decide) (by decide) dX12_comes_61 (fun _ => ?_) (fun z => absurd z (by decide))
        refine x_bipush C (-2) (by decide) dX12_comes_73 ?_
        exact hret _ _ _ _ dX12_comes_75 rfl (Or.inr (Or.inl ⟨(by omega), (by omega), rfl, Wk.mk⟩))
    · refine x_iload C 0 rfl dX12_comes_40 ?_
      exact hret _ _ _ _ dX12_comes_42 rfl (Or.inr (Or.inr ⟨(by omega), (by omega), Wk.mk⟩))
  refine x_ifeq_bz C 32 (by decide) dX12_comes_14 (fun c_14 => ?_) (fun c_14 => ?_)
  · refine x_iconst (v := 0) C dX12_comes_32 ?_
    exact LP33 _ (by omega)
  · refine x_iload_n C 3 rfl rfl dX12_comes_17 ?_
    refine x_S_I C (As := [.int (iN (cell))]) (rest := []) 1 gX12_comes_X12_isCell (c_X12_isCell _ _ (WM X.γ a mh mn mkd mfg mag mpo mwy mdy mhw mkk mkf mrs mrm mrw 0 0 mgr mwa mre mpl mib msn mpn mlo mtl mke mim mhi mp0 mtk mki mun msd mbe) (cell) (by omega)) rfl ok_X12_isCell rfl rfl rfl rfl dX12_comes_18 (fun r w1 hp => ?_)
    obtain ⟨rfl, rfl⟩ := hp
    refine x_ifeq_bz C 32 (by decide) dX12_comes_21 (fun c_21 => ?_) (fun c_21 => ?_)
    · refine x_iconst (v := 0) C dX12_comes_32 ?_
      exact LP33 _ (by omega)
    · refine x_aload_n C 0 rfl rfl dX12_comes_24 ?_
      refine x_iload_n C 1 rfl rfl dX12_comes_25 ?_
      refine x_V_I C (As := [.int (iN (d))]) (rest := []) 1 0 rfl rfl gX12_comes_X12_wrongKept rfl (c_X12_wrongKept _ _ a mh mn mkd mfg mag mpo mwy mdy mhw mkk mkf mrs mrm mrw 0 0 mgr mwa mre mpl mib msn mpn mlo mtl mke mim mhi mp0 mtk mki mun msd mbe hM (d) (by omega)) rfl ok_X12_wrongKept rfl rfl rfl rfl dX12_comes_26 (fun r w1 hp => ?_)
      obtain ⟨rfl, rfl⟩ := hp
      show Wx X 0 0 (WM X.γ a mh mn mkd mfg mag mpo mwy mdy mhw mkk mkf mrs mrm mrw 0 0 mgr mwa mre mpl mib msn mpn mlo mtl mke mim mhi mp0 mtk mki mun msd mbe) 29 [(0, .ref (a 0)), (1, .int (iN (d))), (2, .int (iN (ag))), (3, .int (iN (cell)))] [.int (iN (if 0 ≤ d ∧ d ≤ 7 then (if mhw d = 0 then -11 else if mhw d = 1 then 0 else -12) else -1))]
      refine x_goto C 33 (by decide) dX12_comes_29 ?_
      exact LP33 _ (by omega)
theorem in_X12_steepest_X12 : ∀ w ∈ u_ws RX12 TX12 34, w ∈ wsX12_steepest := by decide +kernel
theorem ok_X12_steepest : okY yX12_steepest 1 := by decide +kernel
def rmX12_steepest : Room := { frames := 3, cells := 0, slots := 0, locals := 67 }
set_option maxRecDepth 100000 in
set_option maxHeartbeats 400000 in
theorem c_X12_steepest (l : Launch) (γ : GX) (a : Nat → Nat) (mh : Int → Int) (mn : Int) (mkd : Int → Int) (mfg : Int → Int) (mag : Int → Int) (mpo : Int → Int) (mwy : Int → Int) (mdy : Int) (mhw : Int → Int) (mkk : Int → Int) (mkf : Int → Int) (mrs : Int → Int) (mrm : Int → Int) (mrw : Int → Int) (mth : Int) (mgr : Int → Int) (mwa : Int → Int) (mre : Int) (mpl : Int) (mib : Int) (msn : Int) (mpn : Int → Int) (mlo : Int → Int) (mtl : Int → Int) (mke : Int → Int) (mim : Int → Int) (mhi : Int) (mp0 : Int) (mtk : Int) (mki : Value) (mun : Int → Int) (msd : Int) (mbe : Int → Int) (hM : WFm mn mh mkd mfg mag mpo mwy mhw mkk mkf mrs mrm mrw) (w : Int) (h0_ : -2147483648 ≤ w ∧ w < 2147483648) : MI l γ yX12_steepest wsX12_steepest rmX12_steepest [.ref (a 0), .int (iN (w))] (WM γ a mh mn mkd mfg mag mpo mwy mdy mhw mkk mkf mrs mrm mrw mth 0 mgr mwa mre mpl mib msn mpn mlo mtl mke mim mhi mp0 mtk mki mun msd mbe) (fun r_ w_ => r_ = q_steepest (Lc mh mn mdy mkd mfg mag mpo mwy) w ∧ Wk γ a mh mn mkd mfg mag mpo mwy mdy mhw mkk mkf mrs mrm mrw 0 mim mhi w_) 0 0 := by
  refine MI.of (cc := cX12_steepest) (maxL := 5) (rt := .int) RX12 rfl (by decide +kernel) rfl (Nat.le_of_ble_eq_true rfl) ?_
  intro X C hγ hl hnm hret
  subst hγ
  have hMn := WFm.n hM
  show Wx X 0 0 (WM X.γ a mh mn mkd mfg mag mpo mwy mdy mhw mkk mkf mrs mrm mrw mth 0 mgr mwa mre mpl mib msn mpn mlo mtl mke mim mhi mp0 mtk mki mun msd mbe) 0 [(0, .ref (a 0)), (1, .int (iN (w)))] []
  refine x_aload_n C 0 rfl rfl dX12_steepest_0 ?_
  refine x_iconst (v := 0) C dX12_steepest_1 ?_
  refine x_put C in_X12_steepest_X12 tyX12 tyX12_ok nmX12 0 rfl rfl 14 (by decide) (List.mem_of_getElem? (i := 1) rfl) rfl rfl rfl rfl rfl (Nat.le_of_ble_eq_true rfl) (WM X.γ a mh mn mkd mfg mag mpo mwy mdy mhw mkk mkf mrs mrm mrw 0 0 mgr mwa mre mpl mib msn mpn mlo mtl mke mim mhi mp0 mtk mki mun msd mbe) rfl dX12_steepest_2 ?_
  refine x_iload_n C 1 rfl rfl dX12_steepest_5 ?_
  refine x_i2l C (by omega) dX12_steepest_6 ?_
  refine x_lconst C 0 rfl dX12_steepest_7 ?_
  refine x_ldc2 C (3) (List.mem_of_getElem? (i := 2) rfl) (by decide) dX12_steepest_8 ?_
  refine x_S_I C (As := [.long (jN (w)), .long (jN (0)), .long (jN (3))]) (rest := []) 3 gX12_steepest_X12_in (c_X12_in _ _ (WM X.γ a mh mn mkd mfg mag mpo mwy mdy mhw mkk mkf mrs mrm mrw 0 0 mgr mwa mre mpl mib msn mpn mlo mtl mke mim mhi mp0 mtk mki mun msd mbe) (w) (0) (3) (by omega) (by omega) (by omega)) rfl ok_X12_in rfl rfl rfl rfl dX12_steepest_11 (fun r w1 hp => ?_)
  obtain ⟨rfl, rfl⟩ := hp
  refine x_ifne_bz C 19 (by decide) dX12_steepest_14 (fun c_14 => ?_) (fun c_14 => ?_)
  · refine x_aload_n C 0 rfl rfl dX12_steepest_19 ?_
    refine x_V_V C (As := []) (rest := []) 0 0 rfl rfl gX12_steepest_X12_layGround rfl (c_X12_layGround0 _ _ a mh mn mkd mfg mag mpo mwy mdy mhw mkk mkf mrs mrm mrw 0 mgr mwa mre mpl mib msn mpn mlo mtl mke mim mhi mp0 mtk mki mun msd mbe hM) rfl ok_X12_layGround rfl rfl rfl rfl dX12_steepest_20 (fun w1 hp => ?_)
    obtain rfl := hp
    refine x_iconst (v := 0) C dX12_steepest_23 ?_
    refine x_istore_n C [(2, .int (iN (0))), (0, .ref (a 0)), (1, .int (iN (w)))] rfl (by decide) rfl dX12_steepest_24 ?_
    refine x_iconst (v := 0) C dX12_steepest_25 ?_
    refine x_istore_n C [(3, .int (iN (0))), (2, .int (iN (0))), (0, .ref (a 0)), (1, .int (iN (w)))] rfl (by decide) rfl dX12_steepest_26 ?_
    refine x_iconst (v := 0) C dX12_steepest_27 ?_
    refine x_istore C [(4, .int (iN (1))), (3, .int (iN (0))), (2, .int (iN (0))), (0, .ref (a 0)), (1, .int (iN (w)))] (by decide) rfl dX12_steepest_28 ?_
    have LP30 : ∀ (f : Nat) (k : Nat) (v4_30 : Int) (v3_30 : Int) (v2_30 : Int), (13 - k < f) → (k ≤ 13) → (((k : Int) + 1) = v4_30) → (v3_30 = (fltc (Ct.s (Lc mh mn mdy mkd mfg mag mpo mwy)) k)) → (v2_30 = (stpc (Ct.s (Lc mh mn mdy mkd mfg mag mpo mwy)) k)) → Wx X 0 0 (WM X.γ a mh mn mkd mfg mag mpo mwy mdy mhw mkk mkf mrs mrm mrw 0 0 (Ct.g (Lc mh mn mdy mkd mfg mag mpo mwy)) mwa mre mpl mib msn mpn mlo mtl mke mim mhi mp0 mtk mki mun msd mbe) 30 [(4, .int (iN (v4_30))), (3, .int (iN (v3_30))), (2, .int (iN (v2_30))), (0, .ref (a 0)), (1, .int (iN (w)))] [] := by
      intro f
      induction f with
      | zero => intro k v4_30 v3_30 v2_30 hf; exact absurd hf (Nat.not_lt_zero _)
      | succ f ih30 =>
        intro k v4_30 v3_30 v2_30 hf hk e4_30 e3_30 e2_30
        subst e4_30
        have bs := stpc_b (Ct.s (Lc mh mn mdy mkd mfg mag mpo mwy)) k
        have bt := fltc_b (Ct.s (Lc mh mn mdy mkd mfg mag mpo mwy)) k
        refine x_iload C 0 rfl dX12_steepest_30 ?_
        refine x_bipush C (14) (by decide) dX12_steepest_32 ?_
        refine x_icmp_ge C 97 (by decide) (by omega) dX12_steepest_34 (fun c_34 => ?_) (fun c_34 => ?_)
        · refine x_iload_n C 4 rfl rfl dX12_steepest_97 ?_
          refine x_if_ne C 105 (by decide) (by omega) dX12_steepest_98 (fun c_98 => ?_) (fun c_98 => ?_)
          · refine x_iload_n C 4 rfl rfl dX12_steepest_105 ?_
            refine x_iconst (v := 0) C dX12_steepest_106 ?_
            refine x_icmp_ne C 121 (by decide) (by omega) dX12_steepest_107 (fun c_107 => ?_) (fun c_107 => ?_)
            · refine x_iload_n C 4 rfl rfl dX12_steepest_121 ?_
              refine x_iconst (v := 0) C dX12_steepest_122 ?_
              refine x_icmp_ne C 130 (by decide) (by omega) dX12_steepest_123 (fun c_123 => ?_) (fun c_123 => ?_)
              · refine x_aload_n C 3 rfl rfl dX12_steepest_130 ?_
                refine x_iload_n C 1 rfl rfl dX12_steepest_131 ?_
                refine x_V_I C (As := [.int (iN (v3_30))]) (rest := []) 1 0 rfl rfl gX12_steepest_X12_riseAt rfl (c_X12_riseAt _ _ a mh mn mkd mfg mag mpo mwy mdy mhw mkk mkf mrs mrm mrw 0 0 (Ct.g (Lc mh mn mdy mkd mfg mag mpo mwy)) mwa mre mpl mib msn mpn mlo mtl mke mim mhi mp0 mtk mki mun msd mbe (v3_30) (by omega)) rfl ok_X12_riseAt rfl rfl rfl rfl dX12_steepest_132 (fun r w1 hp => ?_)
                obtain ⟨rfl, rfl⟩ := hp
                show Wx X 0 0 (WM X.γ a mh mn mkd mfg mag mpo mwy mdy mhw mkk mkf mrs mrm mrw 0 0 (Ct.g (Lc mh mn mdy mkd mfg mag mpo mwy)) mwa mre mpl mib msn mpn mlo mtl mke mim mhi mp0 mtk mki mun msd mbe) 135 [(4, .int (iN ((k : Int) + 1))), (3, .int (iN (v3_30))), (2, .int (iN (v2_30))), (0, .ref (a 0)), (1, .int (iN (w)))] [.int (iN ((Ct.g (Lc mh mn mdy mkd mfg mag mpo mwy)) (v3_30 + 1) - (Ct.g (Lc mh mn mdy mkd mfg mag mpo mwy)) v3_30))]
                have b88 := WFc.g (WFm.L hM mdy) (v3_30)
                have b89 := WFc.g (WFm.L hM mdy) (v3_30 + 1)
                refine x_S_I C (As := [.int (iN ((Ct.g (Lc mh mn mdy mkd mfg mag mpo mwy)) (v3_30 + 1) - (Ct.g (Lc mh mn mdy mkd mfg mag mpo mwy)) v3_30))]) (rest := []) 1 gX12_steepest_X12_plainly (c_X12_plainly _ _ (WM X.γ a mh mn mkd mfg mag mpo mwy mdy mhw mkk mkf mrs mrm mrw 0 0 (Ct.g (Lc mh mn mdy mkd mfg mag mpo mwy)) mwa mre mpl mib msn mpn mlo mtl mke mim mhi mp0 mtk mki mun msd mbe) ((Ct.g (Lc mh mn mdy mkd mfg mag mpo mwy)) (v3_30 + 1) - (Ct.g (Lc mh mn mdy mkd mfg mag mpo mwy)) v3_30) (by omega)) rfl ok_X12_plainly rfl rfl rfl rfl dX12_steepest_135 (fun r w1 hp => ?_)
                obtain ⟨rfl, rfl⟩ := hp
                show Wx X 0 0 (WM X.γ a mh mn mkd mfg mag mpo mwy mdy mhw mkk mkf mrs mrm mrw 0 0 (Ct.g (Lc mh mn mdy mkd mfg mag mpo mwy)) mwa mre mpl mib msn mpn mlo mtl mke mim mhi mp0 mtk mki mun msd mbe) 138 [(4, .int (iN ((k : Int) + 1))), (3, .int (iN (v3_30))), (2, .int (iN (v2_30))), (0, .ref (a 0)), (1, .int (iN (w)))] [.int (iN (if ((Ct.g (Lc mh mn mdy mkd mfg mag mpo mwy)) (v3_30 + 1) - (Ct.g (Lc mh mn mdy mkd mfg mag mpo mwy)) v3_30) < 0 then - ((Ct.g (Lc mh mn mdy mkd mfg mag mpo mwy)) (v3_30 + 1) - (Ct.g (Lc mh mn mdy mkd mfg mag mpo mwy)) v3_30) else ((Ct.g (Lc mh mn mdy mkd mfg mag mpo mwy)) (v3_30 + 1) - (Ct.g (Lc mh mn mdy mkd mfg mag mpo mwy)) v3_30)))]
                exact hret _ _ _ _ dX12_steepest_138 rfl ⟨(by have hz : k = 13 := (by omega); subst hz; unfold q_steepest; rw [if_pos (show 0 ≤ w ∧ w ≤ 3 by omega), if_neg (show ¬ w = 0 by omega), if_neg (show ¬ w = 1 by omega), if_neg (show ¬ w = 2 by omega), ← e3_30]; have : Ct.s (Lc mh mn mdy mkd mfg mag mpo mwy) (v3_30) = azb (Ct.g (Lc mh mn mdy mkd mfg mag mpo mwy) (v3_30 + 1) - Ct.g (Lc mh mn mdy mkd mfg mag mpo mwy) (v3_30)) := rfl; rw [this]; clear this; simp only [azb]; omega), Wk.mk⟩
              · refine x_iload_n C 1 rfl rfl dX12_steepest_126 ?_
                refine x_goto C 138 (by decide) dX12_steepest_127 ?_
                exact hret _ _ _ _ dX12_steepest_138 rfl ⟨(by have hz : k = 13 := (by omega); subst hz; unfold q_steepest; rw [if_pos (show 0 ≤ w ∧ w ≤ 3 by omega), if_neg (show ¬ w = 0 by omega), if_neg (show ¬ w = 1 by omega), if_pos (show w = 2 by omega)]; exact e3_30), Wk.mk⟩
            · refine x_aload_n C 3 rfl rfl dX12_steepest_110 ?_
              refine x_iload_n C 2 rfl rfl dX12_steepest_111 ?_
              refine x_V_I C (As := [.int (iN (v2_30))]) (rest := []) 1 0 rfl rfl gX12_steepest_X12_riseAt rfl (c_X12_riseAt _ _ a mh mn mkd mfg mag mpo mwy mdy mhw mkk mkf mrs mrm mrw 0 0 (Ct.g (Lc mh mn mdy mkd mfg mag mpo mwy)) mwa mre mpl mib msn mpn mlo mtl mke mim mhi mp0 mtk mki mun msd mbe (v2_30) (by omega)) rfl ok_X12_riseAt rfl rfl rfl rfl dX12_steepest_112 (fun r w1 hp => ?_)
              obtain ⟨rfl, rfl⟩ := hp
              show Wx X 0 0 (WM X.γ a mh mn mkd mfg mag mpo mwy mdy mhw mkk mkf mrs mrm mrw 0 0 (Ct.g (Lc mh mn mdy mkd mfg mag mpo mwy)) mwa mre mpl mib msn mpn mlo mtl mke mim mhi mp0 mtk mki mun msd mbe) 115 [(4, .int (iN ((k : Int) + 1))), (3, .int (iN (v3_30))), (2, .int (iN (v2_30))), (0, .ref (a 0)), (1, .int (iN (w)))] [.int (iN ((Ct.g (Lc mh mn mdy mkd mfg mag mpo mwy)) (v2_30 + 1) - (Ct.g (Lc mh mn mdy mkd mfg mag mpo mwy)) v2_30))]
              have b90 := WFc.g (WFm.L hM mdy) (v2_30)
              have b91 := WFc.g (WFm.L hM mdy) (v2_30 + 1)
              refine x_S_I C (As := [.int (iN ((Ct.g (Lc mh mn mdy mkd mfg mag mpo mwy)) (v2_30 + 1) - (Ct.g (Lc mh mn mdy mkd mfg mag mpo mwy)) v2_30))]) (rest := []) 1 gX12_steepest_X12_plainly (c_X12_plainly _ _ (WM X.γ a mh mn mkd mfg mag mpo mwy mdy mhw mkk mkf mrs mrm mrw 0 0 (Ct.g (Lc mh mn mdy mkd mfg mag mpo mwy)) mwa mre mpl mib msn mpn mlo mtl mke mim mhi mp0 mtk mki mun msd mbe) ((Ct.g (Lc mh mn mdy mkd mfg mag mpo mwy)) (v2_30 + 1) - (Ct.g (Lc mh mn mdy mkd mfg mag mpo mwy)) v2_30) (by omega)) rfl ok_X12_plainly rfl rfl rfl rfl dX12_steepest_115 (fun r w1 hp => ?_)
              obtain ⟨rfl, rfl⟩ := hp
              show Wx X 0 0 (WM X.γ a mh mn mkd mfg mag mpo mwy mdy mhw mkk mkf mrs mrm mrw 0 0 (Ct.g (Lc mh mn mdy mkd mfg mag mpo mwy)) mwa mre mpl mib msn mpn mlo mtl mke mim mhi mp0 mtk mki mun msd mbe) 118 [(4, .int (iN ((k : Int) + 1))), (3, .int (iN (v3_30))), (2, .int (iN (v2_30))), (0, .ref (a 0)), (1, .int (iN (w)))] [.int (iN (if ((Ct.g (Lc mh mn mdy mkd mfg mag mpo mwy)) (v2_30 + 1) - (Ct.g (Lc mh mn mdy mkd mfg mag mpo mwy)) v2_30) < 0 then - ((Ct.g (Lc mh mn mdy mkd mfg mag mpo mwy)) (v2_30 + 1) - (Ct.g (Lc mh mn mdy mkd mfg mag mpo mwy)) v2_30) else ((Ct.g (Lc mh mn mdy mkd mfg mag mpo mwy)) (v2_30 + 1) - (Ct.g (Lc mh mn mdy mkd mfg mag mpo mwy)) v2_30)))]
              refine x_goto C 138 (by decide) dX12_steepest_118 ?_
              exact hret _ _ _ _ dX12_steepest_138 rfl ⟨(by have hz : k = 13 := (by omega); subst hz; unfold q_steepest; rw [if_pos (show 0 ≤ w ∧ w ≤ 3 by omega), if_neg (show ¬ w = 0 by omega), if_pos (show w = 1 by omega), ← e2_30]; have : Ct.s (Lc mh mn mdy mkd mfg mag mpo mwy) (v2_30) = azb (Ct.g (Lc mh mn mdy mkd mfg mag mpo mwy) (v2_30 + 1) - Ct.g (Lc mh mn mdy mkd mfg mag mpo mwy) (v2_30)) := rfl; rw [this]; clear this; simp only [azb]; omega), Wk.mk⟩
          · refine x_iload_n C 2 rfl rfl dX12_steepest_101 ?_
            refine x_goto C 138 (by decide) dX12_steepest_102 ?_
            exact hret _ _ _ _ dX12_steepest_138 rfl ⟨(by have hz : k = 13 := (by omega); subst hz; unfold q_steepest; rw [if_pos (show 0 ≤ w ∧ w ≤ 3 by omega), if_pos (show w = 0 by omega)]; exact e2_30), Wk.mk⟩
        · refine x_aload_n C 3 rfl rfl dX12_steepest_37 ?_
          refine x_iload C 0 rfl dX12_steepest_38 ?_
          refine x_V_I C (As := [.int (iN ((k : Int) + 1))]) (rest := []) 1 0 rfl rfl gX12_steepest_X12_riseAt rfl (c_X12_riseAt _ _ a mh mn mkd mfg mag mpo mwy mdy mhw mkk mkf mrs mrm mrw 0 0 (Ct.g (Lc mh mn mdy mkd mfg mag mpo mwy)) mwa mre mpl mib msn mpn mlo mtl mke mim mhi mp0 mtk mki mun msd mbe ((k : Int) + 1) (by omega)) rfl ok_X12_riseAt rfl rfl rfl rfl dX12_steepest_40 (fun r w1 hp => ?_)
          obtain ⟨rfl, rfl⟩ := hp
          show Wx X 0 0 (WM X.γ a mh mn mkd mfg mag mpo mwy mdy mhw mkk mkf mrs mrm mrw 0 0 (Ct.g (Lc mh mn mdy mkd mfg mag mpo mwy)) mwa mre mpl mib msn mpn mlo mtl mke mim mhi mp0 mtk mki mun msd mbe) 43 [(4, .int (iN ((k : Int) + 1))), (3, .int (iN (v3_30))), (2, .int (iN (v2_30))), (0, .ref (a 0)), (1, .int (iN (w)))] [.int (iN ((Ct.g (Lc mh mn mdy mkd mfg mag mpo mwy)) ((k : Int) + 1 + 1) - (Ct.g (Lc mh mn mdy mkd mfg mag mpo mwy)) ((k : Int) + 1)))]
          have b92 := WFc.g (WFm.L hM mdy) ((k : Int) + 1)
          have b93 := WFc.g (WFm.L hM mdy) ((k : Int) + 1 + 1)
          refine x_S_I C (As := [.int (iN ((Ct.g (Lc mh mn mdy mkd mfg mag mpo mwy)) ((k : Int) + 1 + 1) - (Ct.g (Lc mh mn mdy mkd mfg mag mpo mwy)) ((k : Int) + 1)))]) (rest := []) 1 gX12_steepest_X12_plainly (c_X12_plainly _ _ (WM X.γ a mh mn mkd mfg mag mpo mwy mdy mhw mkk mkf mrs mrm mrw 0 0 (Ct.g (Lc mh mn mdy mkd mfg mag mpo mwy)) mwa mre mpl mib msn mpn mlo mtl mke mim mhi mp0 mtk mki mun msd mbe) ((Ct.g (Lc mh mn mdy mkd mfg mag mpo mwy)) ((k : Int) + 1 + 1) - (Ct.g (Lc mh mn mdy mkd mfg mag mpo mwy)) ((k : Int) + 1)) (by omega)) rfl ok_X12_plainly rfl rfl rfl rfl dX12_steepest_43 (fun r w1 hp => ?_)
          obtain ⟨rfl, rfl⟩ := hp
          show Wx X 0 0 (WM X.γ a mh mn mkd mfg mag mpo mwy mdy mhw mkk mkf mrs mrm mrw 0 0 (Ct.g (Lc mh mn mdy mkd mfg mag mpo mwy)) mwa mre mpl mib msn mpn mlo mtl mke mim mhi mp0 mtk mki mun msd mbe) 46 [(4, .int (iN ((k : Int) + 1))), (3, .int (iN (v3_30))), (2, .int (iN (v2_30))), (0, .ref (a 0)), (1, .int (iN (w)))] [.int (iN (if ((Ct.g (Lc mh mn mdy mkd mfg mag mpo mwy)) ((k : Int) + 1 + 1) - (Ct.g (Lc mh mn mdy mkd mfg mag mpo mwy)) ((k : Int) + 1)) < 0 then - ((Ct.g (Lc mh mn mdy mkd mfg mag mpo mwy)) ((k : Int) + 1 + 1) - (Ct.g (Lc mh mn mdy mkd mfg mag mpo mwy)) ((k : Int) + 1)) else ((Ct.g (Lc mh mn mdy mkd mfg mag mpo mwy)) ((k : Int) + 1 + 1) - (Ct.g (Lc mh mn mdy mkd mfg mag mpo mwy)) ((k : Int) + 1))))]
          refine x_aload_n C 3 rfl rfl dX12_steepest_46 ?_
          refine x_iload_n C 2 rfl rfl dX12_steepest_47 ?_
          refine x_V_I C (As := [.int (iN (v2_30))]) (rest := [.int (iN (if ((Ct.g (Lc mh mn mdy mkd mfg mag mpo mwy)) ((k : Int) + 1 + 1) - (Ct.g (Lc mh mn mdy mkd mfg mag mpo mwy)) ((k : Int) + 1)) < 0 then - ((Ct.g (Lc mh mn mdy mkd mfg mag mpo mwy)) ((k : Int) + 1 + 1) - (Ct.g (Lc mh mn mdy mkd mfg mag mpo mwy)) ((k : Int) + 1)) else ((Ct.g (Lc mh mn mdy mkd mfg mag mpo mwy)) ((k : Int) + 1 + 1) - (Ct.g (Lc mh mn mdy mkd mfg mag mpo mwy)) ((k : Int) + 1))))]) 1 0 rfl rfl gX12_steepest_X12_riseAt rfl (c_X12_riseAt _ _ a mh mn mkd mfg mag mpo mwy mdy mhw mkk mkf mrs mrm mrw 0 0 (Ct.g (Lc mh mn mdy mkd mfg mag mpo mwy)) mwa mre mpl mib msn mpn mlo mtl mke mim mhi mp0 mtk mki mun msd mbe (v2_30) (by omega)) rfl ok_X12_riseAt rfl rfl rfl rfl dX12_steepest_48 (fun r w1 hp => ?_)
          obtain ⟨rfl, rfl⟩ := hp
          show Wx X 0 0 (WM X.γ a mh mn mkd mfg mag mpo mwy mdy mhw mkk mkf mrs mrm mrw 0 0 (Ct.g (Lc mh mn mdy mkd mfg mag mpo mwy)) mwa mre mpl mib msn mpn mlo mtl mke mim mhi mp0 mtk mki mun msd mbe) 51 [(4, .int (iN ((k : Int) + 1))), (3, .int (iN (v3_30))), (2, .int (iN (v2_30))), (0, .ref (a 0)), (1, .int (iN (w)))] [.int (iN ((Ct.g (Lc mh mn mdy mkd mfg mag mpo mwy)) (v2_30 + 1) - (Ct.g (Lc mh mn mdy mkd mfg mag mpo mwy)) v2_30)), .int (iN (if ((Ct.g (Lc mh mn mdy mkd mfg mag mpo mwy)) ((k : Int) + 1 + 1) - (Ct.g (Lc mh mn mdy mkd mfg mag mpo mwy)) ((k : Int) + 1)) < 0 then - ((Ct.g (Lc mh mn mdy mkd mfg mag mpo mwy)) ((k : Int) + 1 + 1) - (Ct.g (Lc mh mn mdy mkd mfg mag mpo mwy)) ((k : Int) + 1)) else ((Ct.g (Lc mh mn mdy mkd mfg mag mpo mwy)) ((k : Int) + 1 + 1) - (Ct.g (Lc mh mn mdy mkd mfg mag mpo mwy)) ((k : Int) + 1))))]
          have b94 := WFc.g (WFm.L hM mdy) (v2_30)
          have b95 := WFc.g (WFm.L hM mdy) (v2_30 + 1)
          refine x_S_I C (As := [.int (iN ((Ct.g (Lc mh mn mdy mkd mfg mag mpo mwy)) (v2_30 + 1) - (Ct.g (Lc mh mn mdy mkd mfg mag mpo mwy)) v2_30))]) (rest := [.int (iN (if ((Ct.g (Lc mh mn mdy mkd mfg mag mpo mwy)) ((k : Int) + 1 + 1) - (Ct.g (Lc mh mn mdy mkd mfg mag mpo mwy)) ((k : Int) + 1)) < 0 then - ((Ct.g (Lc mh mn mdy mkd mfg mag mpo mwy)) ((k : Int) + 1 + 1) - (Ct.g (Lc mh mn mdy mkd mfg mag mpo mwy)) ((k : Int) + 1)) else ((Ct.g (Lc mh mn mdy mkd mfg mag mpo mwy)) ((k : Int) + 1 + 1) - (Ct.g (Lc mh mn mdy mkd mfg mag mpo mwy)) ((k : Int) + 1))))]) 1 gX12_steepest_X12_plainly (c_X12_plainly _ _ (WM X.γ a mh mn mkd mfg mag mpo mwy mdy mhw mkk mkf mrs mrm mrw 0 0 (Ct.g (Lc mh mn mdy mkd mfg mag mpo mwy)) mwa mre mpl mib msn mpn mlo mtl mke mim mhi mp0 mtk mki mun msd mbe) ((Ct.g (Lc mh mn mdy mkd mfg mag mpo mwy)) (v2_30 + 1) - (Ct.g (Lc mh mn mdy mkd mfg mag mpo mwy)) v2_30) (by omega)) rfl ok_X12_plainly rfl rfl rfl rfl dX12_steepest_51 (fun r w1 hp => ?_)
          obtain ⟨rfl, rfl⟩ := hp
          show Wx X 0 0 (WM X.γ a mh mn mkd mfg mag mpo mwy mdy mhw mkk mkf mrs mrm mrw 0 0 (Ct.g (Lc mh mn mdy mkd mfg mag mpo mwy)) mwa mre mpl mib msn mpn mlo mtl mke mim mhi mp0 mtk mki mun msd mbe) 54 [(4, .int (iN ((k : Int) + 1))), (3, .int (iN (v3_30))), (2, .int (iN (v2_30))), (0, .ref (a 0)), (1, .int (iN (w)))] [.int (iN (if ((Ct.g (Lc mh mn mdy mkd mfg mag mpo mwy)) (v2_30 + 1) - (Ct.g (Lc mh mn mdy mkd mfg mag mpo mwy)) v2_30) < 0 then - ((Ct.g (Lc mh mn mdy mkd mfg mag mpo mwy)) (v2_30 + 1) - (Ct.g (Lc mh mn mdy mkd mfg mag mpo mwy)) v2_30) else ((Ct.g (Lc mh mn mdy mkd mfg mag mpo mwy)) (v2_30 + 1) - (Ct.g (Lc mh mn mdy mkd mfg mag mpo mwy)) v2_30))), .int (iN (if ((Ct.g (Lc mh mn mdy mkd mfg mag mpo mwy)) ((k : Int) + 1 + 1) - (Ct.g (Lc mh mn mdy mkd mfg mag mpo mwy)) ((k : Int) + 1)) < 0 then - ((Ct.g (Lc mh mn mdy mkd mfg mag mpo mwy)) ((k : Int) + 1 + 1) - (Ct.g (Lc mh mn mdy mkd mfg mag mpo mwy)) ((k : Int) + 1)) else ((Ct.g (Lc mh mn mdy mkd mfg mag mpo mwy)) ((k : Int) + 1 + 1) - (Ct.g (Lc mh mn mdy mkd mfg mag mpo mwy)) ((k : Int) + 1))))]
          have LP63 : ∀ (s0_63 : Int), (s0_63 = (stpc (Ct.s (Lc mh mn mdy mkd mfg mag mpo mwy)) (k + 1))) → Wx X 0 0 (WM X.γ a mh mn mkd mfg mag mpo mwy mdy mhw mkk mkf mrs mrm mrw 0 0 (Ct.g (Lc mh mn mdy mkd mfg mag mpo mwy)) mwa mre mpl mib msn mpn mlo mtl mke mim mhi mp0 mtk mki mun msd mbe) 63 [(4, .int (iN ((k : Int) + 1))), (3, .int (iN (v3_30))), (2, .int (iN (v2_30))), (0, .ref (a 0)), (1, .int (iN (w)))] [.int (iN (s0_63))] := by
            intro s0_63 es0_63
            refine x_istore_n C [(2, .int (iN (s0_63))), (4, .int (iN ((k : Int) + 1))), (3, .int (iN (v3_30))), (0, .ref (a 0)), (1, .int (iN (w)))] rfl (by decide) rfl dX12_steepest_63 ?_
            refine x_aload_n C 3 rfl rfl dX12_steepest_64 ?_
            refine x_iload C 1 rfl dX12_steepest_65 ?_
            refine x_V_I C (As := [.int (iN ((k : Int) + 1))]) (rest := []) 1 0 rfl rfl gX12_steepest_X12_riseAt rfl (c_X12_riseAt _ _ a mh mn mkd mfg mag mpo mwy mdy mhw mkk mkf mrs mrm mrw 0 0 (Ct.g (Lc mh mn mdy mkd mfg mag mpo mwy)) mwa mre mpl mib msn mpn mlo mtl mke mim mhi mp0 mtk mki mun msd mbe ((k : Int) + 1) (by omega)) rfl ok_X12_riseAt rfl rfl rfl rfl dX12_steepest_67 (fun r w1 hp => ?_)
            obtain ⟨rfl, rfl⟩ := hp
            show Wx X 0 0 (WM X.γ a mh mn mkd mfg mag mpo mwy mdy mhw mkk mkf mrs mrm mrw 0 0 (Ct.g (Lc mh mn mdy mkd mfg mag mpo mwy)) mwa mre mpl mib msn mpn mlo mtl mke mim mhi mp0 mtk mki mun msd mbe) 70 [(2, .int (iN (s0_63))), (4, .int (iN ((k : Int) + 1))), (3, .int (iN (v3_30))), (0, .ref (a 0)), (1, .int (iN (w)))] [.int (iN ((Ct.g (Lc mh mn mdy mkd mfg mag mpo mwy)) ((k : Int) + 1 + 1) - (Ct.g (Lc mh mn mdy mkd mfg mag mpo mwy)) ((k : Int) + 1)))]
            have b96 := WFc.g (WFm.L hM mdy) ((k : Int) + 1)
            have b97 := WFc.g (WFm.L hM mdy) ((k : Int) + 1 + 1)
            refine x_S_I C (As := [.int (iN ((Ct.g (Lc mh mn mdy mkd mfg mag mpo mwy)) ((k : Int) + 1 + 1) - (Ct.g (Lc mh mn mdy mkd mfg mag mpo mwy)) ((k : Int) + 1)))]) (rest := []) 1 gX12_steepest_X12_plainly (c_X12_plainly _ _ (WM X.γ a mh mn mkd mfg mag mpo mwy mdy mhw mkk mkf mrs mrm mrw 0 0 (Ct.g (Lc mh mn mdy mkd mfg mag mpo mwy)) mwa mre mpl mib msn mpn mlo mtl mke mim mhi mp0 mtk mki mun msd mbe) ((Ct.g (Lc mh mn mdy mkd mfg mag mpo mwy)) ((k : Int) + 1 + 1) - (Ct.g (Lc mh mn mdy mkd mfg mag mpo mwy)) ((k : Int) + 1)) (by omega)) rfl ok_X12_plainly rfl rfl rfl rfl dX12_steepest_70 (fun r w1 hp => ?_)
            obtain ⟨rfl, rfl⟩ := hp
            show Wx X 0 0 (WM X.γ a mh mn mkd mfg mag mpo mwy mdy mhw mkk mkf mrs mrm mrw 0 0 (Ct.g (Lc mh mn mdy mkd mfg mag mpo mwy)) mwa mre mpl mib msn mpn mlo mtl mke mim mhi mp0 mtk mki mun msd mbe) 73 [(2, .int (iN (s0_63))), (4, .int (iN ((k : Int) + 1))), (3, .int (iN (v3_30))), (0, .ref (a 0)), (1, .int (iN (w)))] [.int (iN (if ((Ct.g (Lc mh mn mdy mkd mfg mag mpo mwy)) ((k : Int) + 1 + 1) - (Ct.g (Lc mh mn mdy mkd mfg mag mpo mwy)) ((k : Int) + 1)) < 0 then - ((Ct.g (Lc mh mn mdy mkd mfg mag mpo mwy)) ((k : Int) + 1 + 1) - (Ct.g (Lc mh mn mdy mkd mfg mag mpo mwy)) ((k : Int) + 1)) else ((Ct.g (Lc mh mn mdy mkd mfg mag mpo mwy)) ((k : Int) + 1 + 1) - (Ct.g (Lc mh mn mdy mkd mfg mag mpo mwy)) ((k : Int) + 1))))]
            refine x_aload_n C 3 rfl rfl dX12_steepest_73 ?_
            refine x_iload_n C 2 rfl rfl dX12_steepest_74 ?_
            refine x_V_I C (As := [.int (iN (v3_30))]) (rest := [.int (iN (if ((Ct.g (Lc mh mn mdy mkd mfg mag mpo mwy)) ((k : Int) + 1 + 1) - (Ct.g (Lc mh mn mdy mkd mfg mag mpo mwy)) ((k : Int) + 1)) < 0 then - ((Ct.g (Lc mh mn mdy mkd mfg mag mpo mwy)) ((k : Int) + 1 + 1) - (Ct.g (Lc mh mn mdy mkd mfg mag mpo mwy)) ((k : Int) + 1)) else ((Ct.g (Lc mh mn mdy mkd mfg mag mpo mwy)) ((k : Int) + 1 + 1) - (Ct.g (Lc mh mn mdy mkd mfg mag mpo mwy)) ((k : Int) + 1))))]) 1 0 rfl rfl gX12_steepest_X12_riseAt rfl (c_X12_riseAt _ _ a mh mn mkd mfg mag mpo mwy mdy mhw mkk mkf mrs mrm mrw 0 0 (Ct.g (Lc mh mn mdy mkd mfg mag mpo mwy)) mwa mre mpl mib msn mpn mlo mtl mke mim mhi mp0 mtk mki mun msd mbe (v3_30) (by omega)) rfl ok_X12_riseAt rfl rfl rfl rfl dX12_steepest_75 (fun r w1 hp => ?_)
            obtain ⟨rfl, rfl⟩ := hp
            show Wx X 0 0 (WM X.γ a mh mn mkd mfg mag mpo mwy mdy mhw mkk mkf mrs mrm mrw 0 0 (Ct.g (Lc mh mn mdy mkd mfg mag mpo mwy)) mwa mre mpl mib msn mpn mlo mtl mke mim mhi mp0 mtk mki mun msd mbe) 78 [(2, .int (iN (s0_63))), (4, .int (iN ((k : Int) + 1))), (3, .int (iN (v3_30))), (0, .ref (a 0)), (1, .int (iN (w)))] [.int (iN ((Ct.g (Lc mh mn mdy mkd mfg mag mpo mwy)) (v3_30 + 1) - (Ct.g (Lc mh mn mdy mkd mfg mag mpo mwy)) v3_30)), .int (iN (if ((Ct.g (Lc mh mn mdy mkd mfg mag mpo mwy)) ((k : Int) + 1 + 1) - (Ct.g (Lc mh mn mdy mkd mfg mag mpo mwy)) ((k : Int) + 1)) < 0 then - ((Ct.g (Lc mh mn mdy mkd mfg mag mpo mwy)) ((k : Int) + 1 + 1) - (Ct.g (Lc mh mn mdy mkd mfg mag mpo mwy)) ((k : Int) + 1)) else ((Ct.g (Lc mh mn mdy mkd mfg mag mpo mwy)) ((k : Int) + 1 + 1) - (Ct.g (Lc mh mn mdy mkd mfg mag mpo mwy)) ((k : Int) + 1))))]
            have b98 := WFc.g (WFm.L hM mdy) (v3_30)
            have b99 := WFc.g (WFm.L hM mdy) (v3_30 + 1)
            refine x_S_I C (As := [.int (iN ((Ct.g (Lc mh mn mdy mkd mfg mag mpo mwy)) (v3_30 + 1) - (Ct.g (Lc mh mn mdy mkd mfg mag mpo mwy)) v3_30))]) (rest := [.int (iN (if ((Ct.g (Lc mh mn mdy mkd mfg mag mpo mwy)) ((k : Int) + 1 + 1) - (Ct.g (Lc mh mn mdy mkd mfg mag mpo mwy)) ((k : Int) + 1)) < 0 then - ((Ct.g (Lc mh mn mdy mkd mfg mag mpo mwy)) ((k : Int) + 1 + 1) - (Ct.g (Lc mh mn mdy mkd mfg mag mpo mwy)) ((k : Int) + 1)) else ((Ct.g (Lc mh mn mdy mkd mfg mag mpo mwy)) ((k : Int) + 1 + 1) - (Ct.g (Lc mh mn mdy mkd mfg mag mpo mwy)) ((k : Int) + 1))))]) 1 gX12_steepest_X12_plainly (c_X12_plainly _ _ (WM X.γ a mh mn mkd mfg mag mpo mwy mdy mhw mkk mkf mrs mrm mrw 0 0 (Ct.g (Lc mh mn mdy mkd mfg mag mpo mwy)) mwa mre mpl mib msn mpn mlo mtl mke mim mhi mp0 mtk mki mun msd mbe) ((Ct.g (Lc mh mn mdy mkd mfg mag mpo mwy)) (v3_30 + 1) - (Ct.g (Lc mh mn mdy mkd mfg mag mpo mwy)) v3_30) (by omega)) rfl ok_X12_plainly rfl rfl rfl rfl dX12_steepest_78 (fun r w1 hp => ?_)
            obtain ⟨rfl, rfl⟩ := hp
            show Wx X 0 0 (WM X.γ a mh mn mkd mfg mag mpo mwy mdy mhw mkk mkf mrs mrm mrw 0 0 (Ct.g (Lc mh mn mdy mkd mfg mag mpo mwy)) mwa mre mpl mib msn mpn mlo mtl mke mim mhi mp0 mtk mki mun msd mbe) 81 [(2, .int (iN (s0_63))), (4, .int (iN ((k : Int) + 1))), (3, .int (iN (v3_30))), (0, .ref (a 0)), (1, .int (iN (w)))] [.int (iN (if ((Ct.g (Lc mh mn mdy mkd mfg mag mpo mwy)) (v3_30 + 1) - (Ct.g (Lc mh mn mdy mkd mfg mag mpo mwy)) v3_30) < 0 then - ((Ct.g (Lc mh mn mdy mkd mfg mag mpo mwy)) (v3_30 + 1) - (Ct.g (Lc mh mn mdy mkd mfg mag mpo mwy)) v3_30) else ((Ct.g (Lc mh mn mdy mkd mfg mag mpo mwy)) (v3_30 + 1) - (Ct.g (Lc mh mn mdy mkd mfg mag mpo mwy)) v3_30))), .int (iN (if ((Ct.g (Lc mh mn mdy mkd mfg mag mpo mwy)) ((k : Int) + 1 + 1) - (Ct.g (Lc mh mn mdy mkd mfg mag mpo mwy)) ((k : Int) + 1)) < 0 then - ((Ct.g (Lc mh mn mdy mkd mfg mag mpo mwy)) ((k : Int) + 1 + 1) - (Ct.g (Lc mh mn mdy mkd mfg mag mpo mwy)) ((k : Int) + 1)) else ((Ct.g (Lc mh mn mdy mkd mfg mag mpo mwy)) ((k : Int) + 1 + 1) - (Ct.g (Lc mh mn mdy mkd mfg mag mpo mwy)) ((k : Int) + 1))))]
            have LP90 : ∀ (s0_90 : Int), (s0_90 = (fltc (Ct.s (Lc mh mn mdy mkd mfg mag mpo mwy)) (k + 1))) → Wx X 0 0 (WM X.γ a mh mn mkd mfg mag mpo mwy mdy mhw mkk mkf mrs mrm mrw 0 0 (Ct.g (Lc mh mn mdy mkd mfg mag mpo mwy)) mwa mre mpl mib msn mpn mlo mtl mke mim mhi mp0 mtk mki mun msd mbe) 90 [(2, .int (iN (s0_63))), (4, .int (iN ((k : Int) + 1))), (3, .int (iN (v3_30))), (0, .ref (a 0)), (1, .int (iN (w)))] [.int (iN (s0_90))] := by
              intro s0_90 es0_90
              refine x_istore_n C [(3, .int (iN (s0_90))), (2, .int (iN (s0_63))), (4, .int (iN ((k : Int) + 1))), (0, .ref (a 0)), (1, .int (iN (w)))] rfl (by decide) rfl dX12_steepest_90 ?_
              refine x_iinc C 2 [(4, .int (iN (((k : Int) + 1) + 1))), (3, .int (iN (s0_90))), (2, .int (iN (s0_63))), (0, .ref (a 0)), (1, .int (iN (w)))] rfl rfl (by decide) rfl dX12_steepest_91 ?_
              refine x_goto C 30 (by decide) dX12_steepest_94 ?_
              exact ih30 (k + 1) _ _ _ (by omega) (by omega) (by omega) (es0_90) (es0_63)
            refine x_icmp_ge C 89 (by decide) (by omega) dX12_steepest_81 (fun c_81 => ?_) (fun c_81 => ?_)
            · refine x_iload_n C 2 rfl rfl dX12_steepest_89 ?_
              exact LP90 _ (by simp only [fltc]; rw [← e3_30]; have : Ct.s (Lc mh mn mdy mkd mfg mag mpo mwy) ((k : Int) + 1) = azb (Ct.g (Lc mh mn mdy mkd mfg mag mpo mwy) ((k : Int) + 1 + 1) - Ct.g (Lc mh mn mdy mkd mfg mag mpo mwy) ((k : Int) + 1)) := rfl; rw [this]; clear this; have : Ct.s (Lc mh mn mdy mkd mfg mag mpo mwy) (v3_30) = azb (Ct.g (Lc mh mn mdy mkd mfg mag mpo mwy) (v3_30 + 1) - Ct.g (Lc mh mn mdy mkd mfg mag mpo mwy) (v3_30)) := rfl; rw [this]; clear this; simp only [azb]; omega)
            · refine x_iload C 1 rfl dX12_steepest_84 ?_
              refine x_goto C 90 (by decide) dX12_steepest_86 ?_
              exact LP90 _ (by simp only [fltc]; rw [← e3_30]; have : Ct.s (Lc mh mn mdy mkd mfg mag mpo mwy) ((k : Int) + 1) = azb (Ct.g (Lc mh mn mdy mkd mfg mag mpo mwy) ((k : Int) + 1 + 1) - Ct.g (Lc mh mn mdy mkd mfg mag mpo mwy) ((k : Int) + 1)) := rfl; rw [this]; clear this; have : Ct.s (Lc mh mn mdy mkd mfg mag mpo mwy) (v3_30) = azb (Ct.g (Lc mh mn mdy mkd mfg mag mpo mwy) (v3_30 + 1) - Ct.g (Lc mh mn mdy mkd mfg mag mpo mwy) (v3_30)) := rfl; rw [this]; clear this; simp only [azb]; omega)
          refine x_icmp_le C 62 (by decide) (by omega) dX12_steepest_54 (fun c_54 => ?_) (fun c_54 => ?_)
          · refine x_iload_n C 2 rfl rfl dX12_steepest_62 ?_
            exact LP63 _ (by simp only [stpc]; rw [← e2_30]; have : Ct.s (Lc mh mn mdy mkd mfg mag mpo mwy) ((k : Int) + 1) = azb (Ct.g (Lc mh mn mdy mkd mfg mag mpo mwy) ((k : Int) + 1 + 1) - Ct.g (Lc mh mn mdy mkd mfg mag mpo mwy) ((k : Int) + 1)) := rfl; rw [this]; clear this; have : Ct.s (Lc mh mn mdy mkd mfg mag mpo mwy) (v2_30) = azb (Ct.g (Lc mh mn mdy mkd mfg mag mpo mwy) (v2_30 + 1) - Ct.g (Lc mh mn mdy mkd mfg mag mpo mwy) (v2_30)) := rfl; rw [this]; clear this; simp only [azb]; omega)
          · refine x_iload C 0 rfl dX12_steepest_57 ?_
            refine x_goto C 63 (by decide) dX12_steepest_59 ?_
            exact LP63 _ (by simp only [stpc]; rw [← e2_30]; have : Ct.s (Lc mh mn mdy mkd mfg mag mpo mwy) ((k : Int) + 1) = azb (Ct.g (Lc mh mn mdy mkd mfg mag mpo mwy) ((k : Int) + 1 + 1) - Ct.g (Lc mh mn mdy mkd mfg mag mpo mwy) ((k : Int) + 1)) := rfl; rw [this]; clear this; have : Ct.s (Lc mh mn mdy mkd mfg mag mpo mwy) (v2_30) = azb (Ct.g (Lc mh mn mdy mkd mfg mag mpo mwy) (v2_30 + 1) - Ct.g (Lc mh mn mdy mkd mfg mag mpo mwy) (v2_30)) := rfl; rw [this]; clear this; simp only [azb]; omega)
    exact LP30 ((13 - (0)) + 1) (0) _ _ _ (by omega) (by omega) (by omega) (rfl) (rfl)
  · refine x_iconst (v := 0) C dX12_steepest_17 ?_
    exact hret _ _ _ _ dX12_steepest_18 rfl ⟨(by unfold q_steepest; rw [if_neg (show ¬ (0 ≤ w ∧ w ≤ 3) by omega)]), Wk.mk⟩
end HCHG
