section HCAR
theorem in_X12_carry_X12 : ∀ w ∈ u_ws RX12 TX12 34, w ∈ wsX12_carry := by decide +kernel
theorem ok_X12_carry : okY yX12_carry 1 := by decide +kernel
def rmX12_carry : Room := { frames := 0, cells := 0, slots := 0, locals := 0 }
set_option maxRecDepth 100000 in
set_option maxHeartbeats 400000 in
theorem c_X12_carry_ke1 (l : Launch) (γ : GX) (a : Nat → Nat) (mh : Int → Int) (mn : Int) (mkd : Int → Int) (mfg : Int → Int) (mag : Int → Int) (mpo : Int → Int) (mwy : Int → Int) (mdy : Int) (mhw : Int → Int) (mkk : Int → Int) (mkf : Int → Int) (mrs : Int → Int) (mrm : Int → Int) (mrw : Int → Int) (mth : Int) (maw : Int) (mgr : Int → Int) (mwa : Int → Int) (mre : Int) (mpl : Int) (mib : Int) (msn : Int) (mpn : Int → Int) (mlo : Int → Int) (mtl : Int → Int) (mke : Int → Int) (mim : Int → Int) (mhi : Int) (mp0 : Int) (mun : Int → Int) (msd : Int) (mbe : Int → Int) (v : Int) (h0_ : 0 ≤ mp0 ∧ mp0 < 47) : MI l γ yX12_carry wsX12_carry rmX12_carry [.ref (a 0), .int (iN (v))] (WM γ a mh mn mkd mfg mag mpo mwy mdy mhw mkk mkf mrs mrm mrw mth maw mgr mwa mre mpl mib msn mpn mlo mtl mke mim mhi mp0 1 (.ref (a 18)) mun msd mbe) (fun r_ w_ => r_ = v ∧ w_ = (WM γ a mh mn mkd mfg mag mpo mwy mdy mhw mkk mkf mrs mrm mrw mth maw mgr mwa mre mpl mib msn mpn mlo mtl (upz mke mp0 v) mim mhi (mp0 + 1) 1 (.ref (a 18)) mun msd mbe)) 0 0 := by
  refine MI.of (cc := cX12_carry) (maxL := 2) (rt := .int) RX12 rfl (by decide +kernel) rfl (Nat.le_of_ble_eq_true rfl) ?_
  intro X C hγ hl hnm hret
  subst hγ
  show Wx X 0 0 (WM X.γ a mh mn mkd mfg mag mpo mwy mdy mhw mkk mkf mrs mrm mrw mth maw mgr mwa mre mpl mib msn mpn mlo mtl mke mim mhi mp0 1 (.ref (a 18)) mun msd mbe) 0 [(0, .ref (a 0)), (1, .int (iN (v)))] []
  refine x_aload_n C 0 rfl rfl dX12_carry_0 ?_
  refine x_get C in_X12_carry_X12 0 rfl rfl 29 (by decide) (List.mem_of_getElem? (i := 1) rfl) rfl (v := .int (iN (1))) rfl dX12_carry_1 ?_
  refine x_if_eq C 17 (by decide) (by decide) dX12_carry_4 (fun z => absurd z (by decide)) (fun _ => ?_)
  refine x_aload_n C 0 rfl rfl dX12_carry_7 ?_
  refine x_get C in_X12_carry_X12 0 rfl rfl 30 (by decide) (List.mem_of_getElem? (i := 2) rfl) rfl (v := .ref (a 18)) rfl dX12_carry_8 ?_
  refine x_aload_n C 0 rfl rfl dX12_carry_11 ?_
  refine x_get C in_X12_carry_X12 0 rfl rfl 28 (by decide) (List.mem_of_getElem? (i := 3) rfl) rfl (v := .int (iN (mp0))) rfl dX12_carry_12 ?_
  refine x_iload_n C 1 rfl rfl dX12_carry_15 ?_
  refine x_iastore C (f := mke) 18 rfl (by omega) rfl (WM X.γ a mh mn mkd mfg mag mpo mwy mdy mhw mkk mkf mrs mrm mrw mth maw mgr mwa mre mpl mib msn mpn mlo mtl (upz mke mp0 v) mim mhi mp0 1 (.ref (a 18)) mun msd mbe) rfl dX12_carry_16 ?_
  refine x_aload_n C 0 rfl rfl dX12_carry_17 ?_
  refine x_dup C rfl dX12_carry_18 ?_
  refine x_get C in_X12_carry_X12 0 rfl rfl 28 (by decide) (List.mem_of_getElem? (i := 3) rfl) rfl (v := .int (iN (mp0))) rfl dX12_carry_19 ?_
  refine x_iconst (v := 0) C dX12_carry_22 ?_
  refine x_iadd C dX12_carry_23 ?_
  refine x_put C in_X12_carry_X12 tyX12 tyX12_ok nmX12 0 rfl rfl 28 (by decide) (List.mem_of_getElem? (i := 3) rfl) rfl rfl rfl rfl rfl (Nat.le_of_ble_eq_true rfl) (WM X.γ a mh mn mkd mfg mag mpo mwy mdy mhw mkk mkf mrs mrm mrw mth maw mgr mwa mre mpl mib msn mpn mlo mtl (upz mke mp0 v) mim mhi (mp0 + 1) 1 (.ref (a 18)) mun msd mbe) rfl dX12_carry_24 ?_
  refine x_aload_n C 0 rfl rfl dX12_carry_27 ?_
  refine x_get C in_X12_carry_X12 0 rfl rfl 30 (by decide) (List.mem_of_getElem? (i := 2) rfl) rfl (v := .ref (a 18)) rfl dX12_carry_28 ?_
  refine x_aload_n C 0 rfl rfl dX12_carry_31 ?_
  refine x_get C in_X12_carry_X12 0 rfl rfl 28 (by decide) (List.mem_of_getElem? (i := 3) rfl) rfl (v := .int (iN (mp0 + 1))) rfl dX12_carry_32 ?_
  refine x_iconst (v := 0) C dX12_carry_35 ?_
  refine x_isub C dX12_carry_36 ?_
  refine x_iaload C (f := (upz mke mp0 v)) 18 rfl (by omega) rfl dX12_carry_37 ?_
  exact hret _ _ _ _ dX12_carry_38 rfl ⟨(by rw [show (mp0 + 1) - 1 = mp0 by omega]; exact upz_s _ _ _), rfl⟩
set_option maxRecDepth 100000 in
set_option maxHeartbeats 400000 in
theorem c_X12_carry_ke0 (l : Launch) (γ : GX) (a : Nat → Nat) (mh : Int → Int) (mn : Int) (mkd : Int → Int) (mfg : Int → Int) (mag : Int → Int) (mpo : Int → Int) (mwy : Int → Int) (mdy : Int) (mhw : Int → Int) (mkk : Int → Int) (mkf : Int → Int) (mrs : Int → Int) (mrm : Int → Int) (mrw : Int → Int) (mth : Int) (maw : Int) (mgr : Int → Int) (mwa : Int → Int) (mre : Int) (mpl : Int) (mib : Int) (msn : Int) (mpn : Int → Int) (mlo : Int → Int) (mtl : Int → Int) (mke : Int → Int) (mim : Int → Int) (mhi : Int) (mp0 : Int) (mun : Int → Int) (msd : Int) (mbe : Int → Int) (v : Int) (h0_ : 0 ≤ mp0 ∧ mp0 < 47) : MI l γ yX12_carry wsX12_carry rmX12_carry [.ref (a 0), .int (iN (v))] (WM γ a mh mn mkd mfg mag mpo mwy mdy mhw mkk mkf mrs mrm mrw mth maw mgr mwa mre mpl mib msn mpn mlo mtl mke mim mhi mp0 0 (.ref (a 18)) mun msd mbe) (fun r_ w_ => r_ = mke mp0 ∧ w_ = (WM γ a mh mn mkd mfg mag mpo mwy mdy mhw mkk mkf mrs mrm mrw mth maw mgr mwa mre mpl mib msn mpn mlo mtl mke mim mhi (mp0 + 1) 0 (.ref (a 18)) mun msd mbe)) 0 0 := by
  refine MI.of (cc := cX12_carry) (maxL := 2) (rt := .int) RX12 rfl (by decide +kernel) rfl (Nat.le_of_ble_eq_true rfl) ?_
  intro X C hγ hl hnm hret
  subst hγ
  show Wx X 0 0 (WM X.γ a mh mn mkd mfg mag mpo mwy mdy mhw mkk mkf mrs mrm mrw mth maw mgr mwa mre mpl mib msn mpn mlo mtl mke mim mhi mp0 0 (.ref (a 18)) mun msd mbe) 0 [(0, .ref (a 0)), (1, .int (iN (v)))] []
  refine x_aload_n C 0 rfl rfl dX12_carry_0 ?_
  refine x_get C in_X12_carry_X12 0 rfl rfl 29 (by decide) (List.mem_of_getElem? (i := 1) rfl) rfl (v := .int (iN (0))) rfl dX12_carry_1 ?_
  refine x_if_eq C 17 (by decide) (by decide) dX12_carry_4 (fun _ => ?_) (fun z => absurd z (by decide))
  refine x_aload_n C 0 rfl rfl dX12_carry_17 ?_
  refine x_dup C rfl dX12_carry_18 ?_
  refine x_get C in_X12_carry_X12 0 rfl rfl 28 (by decide) (List.mem_of_getElem? (i := 3) rfl) rfl (v := .int (iN (mp0))) rfl dX12_carry_19 ?_
  refine x_iconst (v := 0) C dX12_carry_22 ?_
  refine x_iadd C dX12_carry_23 ?_
  refine x_put C in_X12_carry_X12 tyX12 tyX12_ok nmX12 0 rfl rfl 28 (by decide) (List.mem_of_getElem? (i := 3) rfl) rfl rfl rfl rfl rfl (Nat.le_of_ble_eq_true rfl) (WM X.γ a mh mn mkd mfg mag mpo mwy mdy mhw mkk mkf mrs mrm mrw mth maw mgr mwa mre mpl mib msn mpn mlo mtl mke mim mhi (mp0 + 1) 0 (.ref (a 18)) mun msd mbe) rfl dX12_carry_24 ?_
  refine x_aload_n C 0 rfl rfl dX12_carry_27 ?_
  refine x_get C in_X12_carry_X12 0 rfl rfl 30 (by decide) (List.mem_of_getElem? (i := 2) rfl) rfl (v := .ref (a 18)) rfl dX12_carry_28 ?_
  refine x_aload_n C 0 rfl rfl dX12_carry_31 ?_
  refine x_get C in_X12_carry_X12 0 rfl rfl 28 (by decide) (List.mem_of_getElem? (i := 3) rfl) rfl (v := .int (iN (mp0 + 1))) rfl dX12_carry_32 ?_
  refine x_iconst (v := 0) C dX12_carry_35 ?_
  refine x_isub C dX12_carry_36 ?_
  refine x_iaload C (f := mke) 18 rfl (by omega) rfl dX12_carry_37 ?_
  exact hret _ _ _ _ dX12_carry_38 rfl ⟨(by rw [show (mp0 + 1) - 1 = mp0 by omega]), rfl⟩
set_option maxRecDepth 100000 in
set_option maxHeartbeats 400000 in
theorem c_X12_carry_im1 (l : Launch) (γ : GX) (a : Nat → Nat) (mh : Int → Int) (mn : Int) (mkd : Int → Int) (mfg : Int → Int) (mag : Int → Int) (mpo : Int → Int) (mwy : Int → Int) (mdy : Int) (mhw : Int → Int) (mkk : Int → Int) (mkf : Int → Int) (mrs : Int → Int) (mrm : Int → Int) (mrw : Int → Int) (mth : Int) (maw : Int) (mgr : Int → Int) (mwa : Int → Int) (mre : Int) (mpl : Int) (mib : Int) (msn : Int) (mpn : Int → Int) (mlo : Int → Int) (mtl : Int → Int) (mke : Int → Int) (mim : Int → Int) (mhi : Int) (mp0 : Int) (mun : Int → Int) (msd : Int) (mbe : Int → Int) (v : Int) (h0_ : 0 ≤ mp0 ∧ mp0 < 47) : MI l γ yX12_carry wsX12_carry rmX12_carry [.ref (a 0), .int (iN (v))] (WM γ a mh mn mkd mfg mag mpo mwy mdy mhw mkk mkf mrs mrm mrw mth maw mgr mwa mre mpl mib msn mpn mlo mtl mke mim mhi mp0 1 (.ref (a 19)) mun msd mbe) (fun r_ w_ => r_ = v ∧ w_ = (WM γ a mh mn mkd mfg mag mpo mwy mdy mhw mkk mkf mrs mrm mrw mth maw mgr mwa mre mpl mib msn mpn mlo mtl mke (upz mim mp0 v) mhi (mp0 + 1) 1 (.ref (a 19)) mun msd mbe)) 0 0 := by
  refine MI.of (cc := cX12_carry) (maxL := 2) (rt := .int) RX12 rfl (by decide +kernel) rfl (Nat.le_of_ble_eq_true rfl) ?_
  intro X C hγ hl hnm hret
  subst hγ
  show Wx X 0 0 (WM X.γ a mh mn mkd mfg mag mpo mwy mdy mhw mkk mkf mrs mrm mrw mth maw mgr mwa mre mpl mib msn mpn mlo mtl mke mim mhi mp0 1 (.ref (a 19)) mun msd mbe) 0 [(0, .ref (a 0)), (1, .int (iN (v)))] []
  refine x_aload_n C 0 rfl rfl dX12_carry_0 ?_
  refine x_get C in_X12_carry_X12 0 rfl rfl 29 (by decide) (List.mem_of_getElem? (i := 1) rfl) rfl (v := .int (iN (1))) rfl dX12_carry_1 ?_
  refine x_if_eq C 17 (by decide) (by decide) dX12_carry_4 (fun z => absurd z (by decide)) (fun _ => ?_)
  refine x_aload_n C 0 rfl rfl dX12_carry_7 ?_
  refine x_get C in_X12_carry_X12 0 rfl rfl 30 (by decide) (List.mem_of_getElem? (i := 2) rfl) rfl (v := .ref (a 19)) rfl dX12_carry_8 ?_
  refine x_aload_n C 0 rfl rfl dX12_carry_11 ?_
  refine x_get C in_X12_carry_X12 0 rfl rfl 28 (by decide) (List.mem_of_getElem? (i := 3) rfl) rfl (v := .int (iN (mp0))) rfl dX12_carry_12 ?_
  refine x_iload_n C 1 rfl rfl dX12_carry_15 ?_
  refine x_iastore C (f := mim) 19 rfl (by omega) rfl (WM X.γ a mh mn mkd mfg mag mpo mwy mdy mhw mkk mkf mrs mrm mrw mth maw mgr mwa mre mpl mib msn mpn mlo mtl mke (upz mim mp0 v) mhi mp0 1 (.ref (a 19)) mun msd mbe) rfl dX12_carry_16 ?_
  refine x_aload_n C 0 rfl rfl dX12_carry_17 ?_
  refine x_dup C rfl dX12_carry_18 ?_
  refine x_get C in_X12_carry_X12 0 rfl rfl 28 (by decide) (List.mem_of_getElem? (i := 3) rfl) rfl (v := .int (iN (mp0))) rfl dX12_carry_19 ?_
  refine x_iconst (v := 0) C dX12_carry_22 ?_
  refine x_iadd C dX12_carry_23 ?_
  refine x_put C in_X12_carry_X12 tyX12 tyX12_ok nmX12 0 rfl rfl 28 (by decide) (List.mem_of_getElem? (i := 3) rfl) rfl rfl rfl rfl rfl (Nat.le_of_ble_eq_true rfl) (WM X.γ a mh mn mkd mfg mag mpo mwy mdy mhw mkk mkf mrs mrm mrw mth maw mgr mwa mre mpl mib msn mpn mlo mtl mke (upz mim mp0 v) mhi (mp0 + 1) 1 (.ref (a 19)) mun msd mbe) rfl dX12_carry_24 ?_
  refine x_aload_n C 0 rfl rfl dX12_carry_27 ?_
  refine x_get C in_X12_carry_X12 0 rfl rfl 30 (by decide) (List.mem_of_getElem? (i := 2) rfl) rfl (v := .ref (a 19)) rfl dX12_carry_28 ?_
  refine x_aload_n C 0 rfl rfl dX12_carry_31 ?_
  refine x_get C in_X12_carry_X12 0 rfl rfl 28 (by decide) (List.mem_of_getElem? (i := 3) rfl) rfl (v := .int (iN (mp0 + 1))) rfl dX12_carry_32 ?_
  refine x_iconst (v := 0) C dX12_carry_35 ?_
  refine x_isub C dX12_carry_36 ?_
  refine x_iaload C (f := (upz mim mp0 v)) 19 rfl (by omega) rfl dX12_carry_37 ?_
  exact hret _ _ _ _ dX12_carry_38 rfl ⟨(by rw [show (mp0 + 1) - 1 = mp0 by omega]; exact upz_s _ _ _), rfl⟩
set_option maxRecDepth 100000 in
set_option maxHeartbeats 400000 in
theorem c_X12_carry_im0 (l : Launch) (γ : GX) (a : Nat → Nat) (mh : Int → Int) (mn : Int) (mkd : Int → Int) (mfg : Int → Int) (mag : Int → Int) (mpo : Int → Int) (mwy : Int → Int) (mdy : Int) (mhw : Int → Int) (mkk : Int → Int) (mkf : Int → Int) (mrs : Int → Int) (mrm : Int → Int) (mrw : Int → Int) (mth : Int) (maw : Int) (mgr : Int → Int) (mwa : Int → Int) (mre : Int) (mpl : Int) (mib : Int) (msn : Int) (mpn : Int → Int) (mlo : Int → Int) (mtl : Int → Int) (mke : Int → Int) (mim : Int → Int) (mhi : Int) (mp0 : Int) (mun : Int → Int) (msd : Int) (mbe : Int → Int) (v : Int) (h0_ : 0 ≤ mp0 ∧ mp0 < 47) : MI l γ yX12_carry wsX12_carry rmX12_carry [.ref (a 0), .int (iN (v))] (WM γ a mh mn mkd mfg mag mpo mwy mdy mhw mkk mkf mrs mrm mrw mth maw mgr mwa mre mpl mib msn mpn mlo mtl mke mim mhi mp0 0 (.ref (a 19)) mun msd mbe) (fun r_ w_ => r_ = mim mp0 ∧ w_ = (WM γ a mh mn mkd mfg mag mpo mwy mdy mhw mkk mkf mrs mrm mrw mth maw mgr mwa mre mpl mib msn mpn mlo mtl mke mim mhi (mp0 + 1) 0 (.ref (a 19)) mun msd mbe)) 0 0 := by
  refine MI.of (cc := cX12_carry) (maxL := 2) (rt := .int) RX12 rfl (by decide +kernel) rfl (Nat.le_of_ble_eq_true rfl) ?_
  intro X C hγ hl hnm hret
  subst hγ
  show Wx X 0 0 (WM X.γ a mh mn mkd mfg mag mpo mwy mdy mhw mkk mkf mrs mrm mrw mth maw mgr mwa mre mpl mib msn mpn mlo mtl mke mim mhi mp0 0 (.ref (a 19)) mun msd mbe) 0 [(0, .ref (a 0)), (1, .int (iN (v)))] []
  refine x_aload_n C 0 rfl rfl dX12_carry_0 ?_
  refine x_get C in_X12_carry_X12 0 rfl rfl 29 (by decide) (List.mem_of_getElem? (i := 1) rfl) rfl (v := .int (iN (0))) rfl dX12_carry_1 ?_
  refine x_if_eq C 17 (by decide) (by decide) dX12_carry_4 (fun _ => ?_) (fun z => absurd z (by decide))
  refine x_aload_n C 0 rfl rfl dX12_carry_17 ?_
  refine x_dup C rfl dX12_carry_18 ?_
  refine x_get C in_X12_carry_X12 0 rfl rfl 28 (by decide) (List.mem_of_getElem? (i := 3) rfl) rfl (v := .int (iN (mp0))) rfl dX12_carry_19 ?_
  refine x_iconst (v := 0) C dX12_carry_22 ?_
  refine x_iadd C dX12_carry_23 ?_
  refine x_put C in_X12_carry_X12 tyX12 tyX12_ok nmX12 0 rfl rfl 28 (by decide) (List.mem_of_getElem? (i := 3) rfl) rfl rfl rfl rfl rfl (Nat.le_of_ble_eq_true rfl) (WM X.γ a mh mn mkd mfg mag mpo mwy mdy mhw mkk mkf mrs mrm mrw mth maw mgr mwa mre mpl mib msn mpn mlo mtl mke mim mhi (mp0 + 1) 0 (.ref (a 19)) mun msd mbe) rfl dX12_carry_24 ?_
  refine x_aload_n C 0 rfl rfl dX12_carry_27 ?_
  refine x_get C in_X12_carry_X12 0 rfl rfl 30 (by decide) (List.mem_of_getElem? (i := 2) rfl) rfl (v := .ref (a 19)) rfl dX12_carry_28 ?_
  refine x_aload_n C 0 rfl rfl dX12_carry_31 ?_
  refine x_get C in_X12_carry_X12 0 rfl rfl 28 (by decide) (List.mem_of_getElem? (i := 3) rfl) rfl (v := .int (iN (mp0 + 1))) rfl dX12_carry_32 ?_
  refine x_iconst (v := 0) C dX12_carry_35 ?_
  refine x_isub C dX12_carry_36 ?_
  refine x_iaload C (f := mim) 19 rfl (by omega) rfl dX12_carry_37 ?_
  exact hret _ _ _ _ dX12_carry_38 rfl ⟨(by rw [show (mp0 + 1) - 1 = mp0 by omega]), rfl⟩
theorem in_X12_carryAll_X12 : ∀ w ∈ u_ws RX12 TX12 34, w ∈ wsX12_carryAll := by decide +kernel
theorem ok_X12_carryAll : okY yX12_carryAll 2 := by decide +kernel
def rmX12_carryAll : Room := { frames := 1, cells := 0, slots := 0, locals := 21 }
set_option maxRecDepth 100000 in
set_option maxHeartbeats 400000 in
theorem c_X12_carryAll_ke1 (l : Launch) (γ : GX) (a : Nat → Nat) (mh : Int → Int) (mn : Int) (mkd : Int → Int) (mfg : Int → Int) (mag : Int → Int) (mpo : Int → Int) (mwy : Int → Int) (mdy : Int) (mhw : Int → Int) (mkk : Int → Int) (mkf : Int → Int) (mrs : Int → Int) (mrm : Int → Int) (mrw : Int → Int) (mth : Int) (maw : Int) (mgr : Int → Int) (mwa : Int → Int) (mre : Int) (mpl : Int) (mib : Int) (msn : Int) (mpn : Int → Int) (mlo : Int → Int) (mtl : Int → Int) (mke : Int → Int) (mim : Int → Int) (mhi : Int) (mp0 : Int) (mtk : Int) (mki : Value) (mun : Int → Int) (msd : Int) (mbe : Int → Int) : MV l γ yX12_carryAll wsX12_carryAll rmX12_carryAll [.ref (a 0), .ref (a 18), .int (iN (1))] (WM γ a mh mn mkd mfg mag mpo mwy mdy mhw mkk mkf mrs mrm mrw mth maw mgr mwa mre mpl mib msn mpn mlo mtl mke mim mhi mp0 mtk mki mun msd mbe) (fun w_ => w_ = (WM γ a mh mn mkd mfg mag mpo mwy mdy mhw mkk mkf mrs mrm mrw mth maw mgr mwa mre mpl mib msn mpn mlo mtl (pck mh mn mdy mkd mfg mag mpo mwy) mim mhi 47 1 (.ref (a 18)) mun msd mbe)) 0 0 := by
  refine MV.of (cc := cX12_carryAll) (maxL := 4) RX12 rfl (by decide +kernel) rfl (Nat.le_of_ble_eq_true rfl) ?_
  intro X C hγ hl hnm hret
  subst hγ
  show Wx X 0 0 (WM X.γ a mh mn mkd mfg mag mpo mwy mdy mhw mkk mkf mrs mrm mrw mth maw mgr mwa mre mpl mib msn mpn mlo mtl mke mim mhi mp0 mtk mki mun msd mbe) 0 [(0, .ref (a 0)), (1, .ref (a 18)), (2, .int (iN (1)))] []
  refine x_aload_n C 0 rfl rfl dX12_carryAll_0 ?_
  refine x_aload_n C 1 rfl rfl dX12_carryAll_1 ?_
  refine x_put C in_X12_carryAll_X12 tyX12 tyX12_ok nmX12 0 rfl rfl 30 (by decide) (List.mem_of_getElem? (i := 1) rfl) rfl rfl rfl rfl rfl (Nat.le_of_ble_eq_true rfl) (WM X.γ a mh mn mkd mfg mag mpo mwy mdy mhw mkk mkf mrs mrm mrw mth maw mgr mwa mre mpl mib msn mpn mlo mtl mke mim mhi mp0 mtk (.ref (a 18)) mun msd mbe) rfl dX12_carryAll_2 ?_
  refine x_aload_n C 0 rfl rfl dX12_carryAll_5 ?_
  refine x_iload_n C 2 rfl rfl dX12_carryAll_6 ?_
  refine x_put C in_X12_carryAll_X12 tyX12 tyX12_ok nmX12 0 rfl rfl 29 (by decide) (List.mem_of_getElem? (i := 2) rfl) rfl rfl rfl (nar_z (by decide)) (fits_z (by decide)) (Nat.le_of_ble_eq_true rfl) (WM X.γ a mh mn mkd mfg mag mpo mwy mdy mhw mkk mkf mrs mrm mrw mth maw mgr mwa mre mpl mib msn mpn mlo mtl mke mim mhi mp0 1 (.ref (a 18)) mun msd mbe) rfl dX12_carryAll_7 ?_
  refine x_aload_n C 0 rfl rfl dX12_carryAll_10 ?_
  refine x_iconst (v := 0) C dX12_carryAll_11 ?_
  refine x_put C in_X12_carryAll_X12 tyX12 tyX12_ok nmX12 0 rfl rfl 28 (by decide) (List.mem_of_getElem? (i := 3) rfl) rfl rfl rfl rfl rfl (Nat.le_of_ble_eq_true rfl) (WM X.γ a mh mn mkd mfg mag mpo mwy mdy mhw mkk mkf mrs mrm mrw mth maw mgr mwa mre mpl mib msn mpn mlo mtl mke mim mhi 0 1 (.ref (a 18)) mun msd mbe) rfl dX12_carryAll_12 ?_
  refine x_aload_n C 0 rfl rfl dX12_carryAll_15 ?_
  refine x_aload_n C 0 rfl rfl dX12_carryAll_16 ?_
  refine x_aload_n C 0 rfl rfl dX12_carryAll_17 ?_
  refine x_get C in_X12_carryAll_X12 0 rfl rfl 1 (by decide) (List.mem_of_getElem? (i := 4) rfl) rfl (v := .int (iN (mn))) rfl dX12_carryAll_18 ?_
  refine x_V_I C (As := [.int (iN (mn))]) (rest := [.ref (a 0)]) 1 0 rfl rfl gX12_carryAll_X12_carry rfl (c_X12_carry_ke1 _ _ a mh mn mkd mfg mag mpo mwy mdy mhw mkk mkf mrs mrm mrw mth maw mgr mwa mre mpl mib msn mpn mlo mtl mke mim mhi 0 mun msd mbe (mn) (by omega)) rfl ok_X12_carry rfl rfl rfl rfl dX12_carryAll_21 (fun r w1 hp => ?_)
  obtain ⟨hr_, rfl⟩ := hp
  rw [hr_]
  show Wx X 0 0 (WM X.γ a mh mn mkd mfg mag mpo mwy mdy mhw mkk mkf mrs mrm mrw mth maw mgr mwa mre mpl mib msn mpn mlo mtl (upz mke 0 mn) mim mhi (0 + 1) 1 (.ref (a 18)) mun msd mbe) 24 [(0, .ref (a 0)), (1, .ref (a 18)), (2, .int (iN (1)))] [.int (iN (mn)), .ref (a 0)]
  refine x_put C in_X12_carryAll_X12 tyX12 tyX12_ok nmX12 0 rfl rfl 1 (by decide) (List.mem_of_getElem? (i := 4) rfl) rfl rfl rfl rfl rfl (Nat.le_of_ble_eq_true rfl) (WM X.γ a mh mn mkd mfg mag mpo mwy mdy mhw mkk mkf mrs mrm mrw mth maw mgr mwa mre mpl mib msn mpn mlo mtl (upz mke 0 mn) mim mhi (0 + 1) 1 (.ref (a 18)) mun msd mbe) rfl dX12_carryAll_24 ?_
  refine x_aload_n C 0 rfl rfl dX12_carryAll_27 ?_
  refine x_aload_n C 0 rfl rfl dX12_carryAll_28 ?_
  refine x_aload_n C 0 rfl rfl dX12_carryAll_29 ?_
  refine x_get C in_X12_carryAll_X12 0 rfl rfl 7 (by decide) (List.mem_of_getElem? (i := 5) rfl) rfl (v := .int (iN (mdy))) rfl dX12_carryAll_30 ?_
  refine x_V_I C (As := [.int (iN (mdy))]) (rest := [.ref (a 0)]) 1 0 rfl rfl gX12_carryAll_X12_carry rfl (c_X12_carry_ke1 _ _ a mh mn mkd mfg mag mpo mwy mdy mhw mkk mkf mrs mrm mrw mth maw mgr mwa mre mpl mib msn mpn mlo mtl (upz mke 0 mn) mim mhi (0 + 1) mun msd mbe (mdy) (by omega)) rfl ok_X12_carry rfl rfl rfl rfl dX12_carryAll_33 (fun r w1 hp => ?_)
  obtain ⟨hr_, rfl⟩ := hp
  rw [hr_]
  show Wx X 0 0 (WM X.γ a mh mn mkd mfg mag mpo mwy mdy mhw mkk mkf mrs mrm mrw mth maw mgr mwa mre mpl mib msn mpn mlo mtl (upz (upz mke 0 mn) (0 + 1) mdy) mim mhi ((0 + 1) + 1) 1 (.ref (a 18)) mun msd mbe) 36 [(0, .ref (a 0)), (1, .ref (a 18)), (2, .int (iN (1)))] [.int (iN (mdy)), .ref (a 0)]
  refine x_put C in_X12_carryAll_X12 tyX12 tyX12_ok nmX12 0 rfl rfl 7 (by decide) (List.mem_of_getElem? (i := 5) rfl) rfl rfl rfl rfl rfl (Nat.le_of_ble_eq_true rfl) (WM X.γ a mh mn mkd mfg mag mpo mwy mdy mhw mkk mkf mrs mrm mrw mth maw mgr mwa mre mpl mib msn mpn mlo mtl (upz (upz mke 0 mn) (0 + 1) mdy) mim mhi ((0 + 1) + 1) 1 (.ref (a 18)) mun msd mbe) rfl dX12_carryAll_36 ?_
  refine x_iconst (v := 0) C dX12_carryAll_39 ?_
  refine x_istore_n C [(3, .int (iN (0))), (0, .ref (a 0)), (1, .ref (a 18)), (2, .int (iN (1)))] rfl (by decide) rfl dX12_carryAll_40 ?_
  have LP41 : ∀ (f : Nat) (c : Nat) (K : Int → Int) (v3_41 : Int), (15 - c < f) → (c ≤ 15) → (∀ j : Int, 0 ≤ j → j < 2 + (c : Int) → K j = pck mh mn mdy mkd mfg mag mpo mwy j) → (((c : Int)) = v3_41) → Wx X 0 0 (WM X.γ a mh mn mkd mfg mag mpo mwy mdy mhw mkk mkf mrs mrm mrw mth maw mgr mwa mre mpl mib msn mpn mlo mtl K mim mhi (2 + (c : Int)) 1 (.ref (a 18)) mun msd mbe) 41 [(3, .int (iN (v3_41))), (0, .ref (a 0)), (1, .ref (a 18)), (2, .int (iN (1)))] [] := by
    intro f
    induction f with
    | zero => intro c K v3_41 hf; exact absurd hf (Nat.not_lt_zero _)
    | succ f ih41 =>
      intro c K v3_41 hf hc hK e3_41
      subst e3_41
      refine x_iload_n C 0 rfl rfl dX12_carryAll_41 ?_
      refine x_bipush C (15) (by decide) dX12_carryAll_42 ?_
      refine x_icmp_ge C 69 (by decide) (by omega) dX12_carryAll_44 (fun c_44 => ?_) (fun c_44 => ?_)
      · refine x_iconst (v := 0) C dX12_carryAll_69 ?_
        refine x_istore_n C [(3, .int (iN (0))), (0, .ref (a 0)), (1, .ref (a 18)), (2, .int (iN (1)))] rfl (by decide) rfl dX12_carryAll_70 ?_
        have LP71 : ∀ (f : Nat) (u : Nat) (K2 : Int → Int) (v3_71 : Int), (6 - u < f) → (u ≤ 6) → (∀ j : Int, 0 ≤ j → j < 17 + 5 * (u : Int) → K2 j = pck mh mn mdy mkd mfg mag mpo mwy j) → (((u : Int)) = v3_71) → Wx X 0 0 (WM X.γ a mh mn mkd mfg mag mpo mwy mdy mhw mkk mkf mrs mrm mrw mth maw mgr mwa mre mpl mib msn mpn mlo mtl K2 mim mhi (17 + 5 * (u : Int)) 1 (.ref (a 18)) mun msd mbe) 71 [(3, .int (iN (v3_71))), (0, .ref (a 0)), (1, .ref (a 18)), (2, .int (iN (1)))] [] := by
          intro f
          induction f with
          | zero => intro u K2 v3_71 hf; exact absurd hf (Nat.not_lt_zero _)
          | succ f ih71 =>
            intro u K2 v3_71 hf hu hK2 e3_71
            subst e3_71
            refine x_iload_n C 0 rfl rfl dX12_carryAll_71 ?_
            refine x_bipush C (6) (by decide) dX12_carryAll_72 ?_
            refine x_icmp_ge C 163 (by decide) (by omega) dX12_carryAll_74 (fun c_74 => ?_) (fun c_74 => ?_)
            · refine Wx.eqW (ws' := (WM X.γ a mh mn mkd mfg mag mpo mwy mdy mhw mkk mkf mrs mrm mrw mth maw mgr mwa mre mpl mib msn mpn mlo mtl K2 mim mhi 47 1 (.ref (a 18)) mun msd mbe)) (by rw [show (17 + 5 * (u : Int) : Int) = 47 by omega]) ?_
              refine x_canonI (f := K2) (g := pck mh mn mdy mkd mfg mag mpo mwy) 18 rfl (fun j h1 h2 => hK2 j h1 (by omega)) (WM X.γ a mh mn mkd mfg mag mpo mwy mdy mhw mkk mkf mrs mrm mrw mth maw mgr mwa mre mpl mib msn mpn mlo mtl (pck mh mn mdy mkd mfg mag mpo mwy) mim mhi 47 1 (.ref (a 18)) mun msd mbe) rfl ?_
              exact hret _ _ _ dX12_carryAll_163 rfl
            · refine x_aload_n C 1 rfl rfl dX12_carryAll_77 ?_
              refine x_get C in_X12_carryAll_X12 0 rfl rfl 2 (by decide) (List.mem_of_getElem? (i := 7) rfl) rfl (v := .ref (a 2)) rfl dX12_carryAll_78 ?_
              refine x_iload_n C 0 rfl rfl dX12_carryAll_81 ?_
              refine x_aload_n C 1 rfl rfl dX12_carryAll_82 ?_
              refine x_aload_n C 1 rfl rfl dX12_carryAll_83 ?_
              refine x_get C in_X12_carryAll_X12 0 rfl rfl 2 (by decide) (List.mem_of_getElem? (i := 7) rfl) rfl (v := .ref (a 2)) rfl dX12_carryAll_84 ?_
              refine x_iload_n C 0 rfl rfl dX12_carryAll_87 ?_
              refine x_iaload C (f := mkd) 2 rfl (by omega) rfl dX12_carryAll_88 ?_
              refine x_V_I C (As := [.int (iN (mkd (u : Int)))]) (rest := [.int (iN ((u : Int))), .ref (a 2)]) 1 0 rfl rfl gX12_carryAll_X12_carry rfl (c_X12_carry_ke1 _ _ a mh mn mkd mfg mag mpo mwy mdy mhw mkk mkf mrs mrm mrw mth maw mgr mwa mre mpl mib msn mpn mlo mtl K2 mim mhi (17 + 5 * (u : Int)) mun msd mbe (mkd (u : Int)) (by omega)) rfl ok_X12_carry rfl rfl rfl rfl dX12_carryAll_89 (fun r w1 hp => ?_)
              obtain ⟨rfl, rfl⟩ := hp
              show Wx X 0 0 (WM X.γ a mh mn mkd mfg mag mpo mwy mdy mhw mkk mkf mrs mrm mrw mth maw mgr mwa mre mpl mib msn mpn mlo mtl (upz K2 (17 + 5 * (u : Int)) (mkd (u : Int))) mim mhi ((17 + 5 * (u : Int)) + 1) 1 (.ref (a 18)) mun msd mbe) 92 [(3, .int (iN ((u : Int)))), (0, .ref (a 0)), (1, .ref (a 18)), (2, .int (iN (1)))] [.int (iN (mkd (u : Int))), .int (iN ((u : Int))), .ref (a 2)]
              refine x_iastore C (f := mkd) 2 rfl (by omega) rfl (WM X.γ a mh mn (upz mkd (u : Int) (mkd (u : Int))) mfg mag mpo mwy mdy mhw mkk mkf mrs mrm mrw mth maw mgr mwa mre mpl mib msn mpn mlo mtl (upz K2 (17 + 5 * (u : Int)) (mkd (u : Int))) mim mhi ((17 + 5 * (u : Int)) + 1) 1 (.ref (a 18)) mun msd mbe) rfl dX12_carryAll_92 ?_
              refine x_canonI (f := upz mkd (u : Int) (mkd (u : Int))) (g := mkd) 2 rfl (fun j h1 h2 => by rw [upz_id]) (WM X.γ a mh mn mkd mfg mag mpo mwy mdy mhw mkk mkf mrs mrm mrw mth maw mgr mwa mre mpl mib msn mpn mlo mtl (upz K2 (17 + 5 * (u : Int)) (mkd (u : Int))) mim mhi ((17 + 5 * (u : Int)) + 1) 1 (.ref (a 18)) mun msd mbe) rfl ?_
              refine x_aload_n C 1 rfl rfl dX12_carryAll_93 ?_
              refine x_get C in_X12_carryAll_X12 0 rfl rfl 3 (by decide) (List.mem_of_getElem? (i := 8) rfl) rfl (v := .ref (a 3)) rfl dX12_carryAll_94 ?_
              refine x_iload_n C 0 rfl rfl dX12_carryAll_97 ?_
              refine x_aload_n C 1 rfl rfl dX12_carryAll_98 ?_
              refine x_aload_n C 1 rfl rfl dX12_carryAll_99 ?_
              refine x_get C in_X12_carryAll_X12 0 rfl rfl 3 (by decide) (List.mem_of_getElem? (i := 8) rfl) rfl (v := .ref (a 3)) rfl dX12_carryAll_100 ?_
              refine x_iload_n C 0 rfl rfl dX12_carryAll_103 ?_
              refine x_iaload C (f := mfg) 3 rfl (by omega) rfl dX12_carryAll_104 ?_
              refine x_V_I C (As := [.int (iN (mfg (u : Int)))]) (rest := [.int (iN ((u : Int))), .ref (a 3)]) 1 0 rfl rfl gX12_carryAll_X12_carry rfl (c_X12_carry_ke1 _ _ a mh mn mkd mfg mag mpo mwy mdy mhw mkk mkf mrs mrm mrw mth maw mgr mwa mre mpl mib msn mpn mlo mtl (upz K2 (17 + 5 * (u : Int)) (mkd (u : Int))) mim mhi ((17 + 5 * (u : Int)) + 1) mun msd mbe (mfg (u : Int)) (by omega)) rfl ok_X12_carry rfl rfl rfl rfl dX12_carryAll_105 (fun r w1 hp => ?_)
              obtain ⟨rfl, rfl⟩ := hp
              show Wx X 0 0 (WM X.γ a mh mn mkd mfg mag mpo mwy mdy mhw mkk mkf mrs mrm mrw mth maw mgr mwa mre mpl mib msn mpn mlo mtl (upz (upz K2 (17 + 5 * (u : Int)) (mkd (u : Int))) ((17 + 5 * (u : Int)) + 1) (mfg (u : Int))) mim mhi (((17 + 5 * (u : Int)) + 1) + 1) 1 (.ref (a 18)) mun msd mbe) 108 [(3, .int (iN ((u : Int)))), (0, .ref (a 0)), (1, .ref (a 18)), (2, .int (iN (1)))] [.int (iN (mfg (u : Int))), .int (iN ((u : Int))), .ref (a 3)]
              refine x_iastore C (f := mfg) 3 rfl (by omega) rfl (WM X.γ a mh mn mkd (upz mfg (u : Int) (mfg (u : Int))) mag mpo mwy mdy mhw mkk mkf mrs mrm mrw mth maw mgr mwa mre mpl mib msn mpn mlo mtl (upz (upz K2 (17 + 5 * (u : Int)) (mkd (u : Int))) ((17 + 5 * (u : Int)) + 1) (mfg (u : Int))) mim mhi (((17 + 5 * (u : Int)) + 1) + 1) 1 (.ref (a 18)) mun msd mbe) rfl dX12_carryAll_108 ?_
              refine x_canonI (f := upz mfg (u : Int) (mfg (u : Int))) (g := mfg) 3 rfl (fun j h1 h2 => by rw [upz_id]) (WM X.γ a mh mn mkd mfg mag mpo mwy mdy mhw mkk mkf mrs mrm mrw mth maw mgr mwa mre mpl mib msn mpn mlo mtl (upz (upz K2 (17 + 5 * (u : Int)) (mkd (u : Int))) ((17 + 5 * (u : Int)) + 1) (mfg (u : Int))) mim mhi (((17 + 5 * (u : Int)) + 1) + 1) 1 (.ref (a 18)) mun msd mbe) rfl ?_
              refine x_aload_n C 1 rfl rfl dX12_carryAll_109 ?_
              refine x_get C in_X12_carryAll_X12 0 rfl rfl 4 (by decide) (List.mem_of_getElem? (i := 9) rfl) rfl (v := .ref (a 4)) rfl dX12_carryAll_110 ?_
              refine x_iload_n C 0 rfl rfl dX12_carryAll_113 ?_
              refine x_aload_n C 1 rfl rfl dX12_carryAll_114 ?_
              refine x_aload_n C 1 rfl rfl dX12_carryAll_115 ?_
              refine x_get C in_X12_carryAll_X12 0 rfl rfl 4 (by decide) (List.mem_of_getElem? (i := 9) rfl) rfl (v := .ref (a 4)) rfl dX12_carryAll_116 ?_
              refine x_iload_n C 0 rfl rfl dX12_carryAll_119 ?_
              refine x_iaload C (f := mag) 4 rfl (by omega) rfl dX12_carryAll_120 ?_
              refine x_V_I C (As := [.int (iN (mag (u : Int)))]) (rest := [.int (iN ((u : Int))), .ref (a 4)]) 1 0 rfl rfl gX12_carryAll_X12_carry rfl (c_X12_carry_ke1 _ _ a mh mn mkd mfg mag mpo mwy mdy mhw mkk mkf mrs mrm mrw mth maw mgr mwa mre mpl mib msn mpn mlo mtl (upz (upz K2 (17 + 5 * (u : Int)) (mkd (u : Int))) ((17 + 5 * (u : Int)) + 1) (mfg (u : Int))) mim mhi (((17 + 5 * (u : Int)) + 1) + 1) mun msd mbe (mag (u : Int)) (by omega)) rfl ok_X12_carry rfl rfl rfl rfl dX12_carryAll_121 (fun r w1 hp => ?_)
              obtain ⟨rfl, rfl⟩ := hp
              show Wx X 0 0 (WM X.γ a mh mn mkd mfg mag mpo mwy mdy mhw mkk mkf mrs mrm mrw mth maw mgr mwa mre mpl mib msn mpn mlo mtl (upz (upz (upz K2 (17 + 5 * (u : Int)) (mkd (u : Int))) ((17 + 5 * (u : Int)) + 1) (mfg (u : Int))) (((17 + 5 * (u : Int)) + 1) + 1) (mag (u : Int))) mim mhi ((((17 + 5 * (u : Int)) + 1) + 1) + 1) 1 (.ref (a 18)) mun msd mbe) 124 [(3, .int (iN ((u : Int)))), (0, .ref (a 0)), (1, .ref (a 18)), (2, .int (iN (1)))] [.int (iN (mag (u : Int))), .int (iN ((u : Int))), .ref (a 4)]
              refine x_iastore C (f := mag) 4 rfl (by omega) rfl (WM X.γ a mh mn mkd mfg (upz mag (u : Int) (mag (u : Int))) mpo mwy mdy mhw mkk mkf mrs mrm mrw mth maw mgr mwa mre mpl mib msn mpn mlo mtl (upz (upz (upz K2 (17 + 5 * (u : Int)) (mkd (u : Int))) ((17 + 5 * (u : Int)) + 1) (mfg (u : Int))) (((17 + 5 * (u : Int)) + 1) + 1) (mag (u : Int))) mim mhi ((((17 + 5 * (u : Int)) + 1) + 1) + 1) 1 (.ref (a 18)) mun msd mbe) rfl dX12_carryAll_124 ?_
              refine x_canonI (f := upz mag (u : Int) (mag (u : Int))) (g := mag) 4 rfl (fun j h1 h2 => by rw [upz_id]) (WM X.γ a mh mn mkd mfg mag mpo mwy mdy mhw mkk mkf mrs mrm mrw mth maw mgr mwa mre mpl mib msn mpn mlo mtl (upz (upz (upz K2 (17 + 5 * (u : Int)) (mkd (u : Int))) ((17 + 5 * (u : Int)) + 1) (mfg (u : Int))) (((17 + 5 * (u : Int)) + 1) + 1) (mag (u : Int))) mim mhi ((((17 + 5 * (u : Int)) + 1) + 1) + 1) 1 (.ref (a 18)) mun msd mbe) rfl ?_
              refine x_aload_n C 1 rfl rfl dX12_carryAll_125 ?_
              refine x_get C in_X12_carryAll_X12 0 rfl rfl 5 (by decide) (List.mem_of_getElem? (i := 10) rfl) rfl (v := .ref (a 5)) rfl dX12_carryAll_126 ?_
              refine x_iload_n C 0 rfl rfl dX12_carryAll_129 ?_
              refine x_aload_n C 1 rfl rfl dX12_carryAll_130 ?_
              refine x_aload_n C 1 rfl rfl dX12_carryAll_131 ?_
              refine x_get C in_X12_carryAll_X12 0 rfl rfl 5 (by decide) (List.mem_of_getElem? (i := 10) rfl) rfl (v := .ref (a 5)) rfl dX12_carryAll_132 ?_
              refine x_iload_n C 0 rfl rfl dX12_carryAll_135 ?_
              refine x_iaload C (f := mpo) 5 rfl (by omega) rfl dX12_carryAll_136 ?_
              refine x_V_I C (As := [.int (iN (mpo (u : Int)))]) (rest := [.int (iN ((u : Int))), .ref (a 5)]) 1 0 rfl rfl gX12_carryAll_X12_carry rfl (c_X12_carry_ke1 _ _ a mh mn mkd mfg mag mpo mwy mdy mhw mkk mkf mrs mrm mrw mth maw mgr mwa mre mpl mib msn mpn mlo mtl (upz (upz (upz K2 (17 + 5 * (u : Int)) (mkd (u : Int))) ((17 + 5 * (u : Int)) + 1) (mfg (u : Int))) (((17 + 5 * (u : Int)) + 1) + 1) (mag (u : Int))) mim mhi ((((17 + 5 * (u : Int)) + 1) + 1) + 1) mun msd mbe (mpo (u : Int)) (by omega)) rfl ok_X12_carry rfl rfl rfl rfl dX12_carryAll_137 (fun r w1 hp => ?_)
              obtain ⟨rfl, rfl⟩ := hp
              show Wx X 0 0 (WM X.γ a mh mn mkd mfg mag mpo mwy mdy mhw mkk mkf mrs mrm mrw mth maw mgr mwa mre mpl mib msn mpn mlo mtl (upz (upz (upz (upz K2 (17 + 5 * (u : Int)) (mkd (u : Int))) ((17 + 5 * (u : Int)) + 1) (mfg (u : Int))) (((17 + 5 * (u : Int)) + 1) + 1) (mag (u : Int))) ((((17 + 5 * (u : Int)) + 1) + 1) + 1) (mpo (u : Int))) mim mhi (((((17 + 5 * (u : Int)) + 1) + 1) + 1) + 1) 1 (.ref (a 18)) mun msd mbe) 140 [(3, .int (iN ((u : Int)))), (0, .ref (a 0)), (1, .ref (a 18)), (2, .int (iN (1)))] [.int (iN (mpo (u : Int))), .int (iN ((u : Int))), .ref (a 5)]
              refine x_iastore C (f := mpo) 5 rfl (by omega) rfl (WM X.γ a mh mn mkd mfg mag (upz mpo (u : Int) (mpo (u : Int))) mwy mdy mhw mkk mkf mrs mrm mrw mth maw mgr mwa mre mpl mib msn mpn mlo mtl (upz (upz (upz (upz K2 (17 + 5 * (u : Int)) (mkd (u : Int))) ((17 + 5 * (u : Int)) + 1) (mfg (u : Int))) (((17 + 5 * (u : Int)) + 1) + 1) (mag (u : Int))) ((((17 + 5 * (u : Int)) + 1) + 1) + 1) (mpo (u : Int))) mim mhi (((((17 + 5 * (u : Int)) + 1) + 1) + 1) + 1) 1 (.ref (a 18)) mun msd mbe) rfl dX12_carryAll_140 ?_
              refine x_canonI (f := upz mpo (u : Int) (mpo (u : Int))) (g := mpo) 5 rfl (fun j h1 h2 => by rw [upz_id]) (WM X.γ a mh mn mkd mfg mag mpo mwy mdy mhw mkk mkf mrs mrm mrw mth maw mgr mwa mre mpl mib msn mpn mlo mtl (upz (upz (upz (upz K2 (17 + 5 * (u : Int)) (mkd (u : Int))) ((17 + 5 * (u : Int)) + 1) (mfg (u : Int))) (((17 + 5 * (u : Int)) + 1) + 1) (mag (u : Int))) ((((17 + 5 * (u : Int)) + 1) + 1) + 1) (mpo (u : Int))) mim mhi (((((17 + 5 * (u : Int)) + 1) + 1) + 1) + 1) 1 (.ref (a 18)) mun msd mbe) rfl ?_
              refine x_aload_n C 1 rfl rfl dX12_carryAll_141 ?_
              refine x_get C in_X12_carryAll_X12 0 rfl rfl 6 (by decide) (List.mem_of_getElem? (i := 11) rfl) rfl (v := .ref (a 6)) rfl dX12_carryAll_142 ?_
              refine x_iload_n C 0 rfl rfl dX12_carryAll_145 ?_
              refine x_aload_n C 1 rfl rfl dX12_carryAll_146 ?_
              refine x_aload_n C 1 rfl rfl dX12_carryAll_147 ?_
              refine x_get C in_X12_carryAll_X12 0 rfl rfl 6 (by decide) (List.mem_of_getElem? (i := 11) rfl) rfl (v := .ref (a 6)) rfl dX12_carryAll_148 ?_
              refine x_iload_n C 0 rfl rfl dX12_carryAll_151 ?_
              refine x_iaload C (f := mwy) 6 rfl (by omega) rfl dX12_carryAll_152 ?_
              refine x_V_I C (As := [.int (iN (mwy (u : Int)))]) (rest := [.int (iN ((u : Int))), .ref (a 6)]) 1 0 rfl rfl gX12_carryAll_X12_carry rfl (c_X12_carry_ke1 _ _ a mh mn mkd mfg mag mpo mwy mdy mhw mkk mkf mrs mrm mrw mth maw mgr mwa mre mpl mib msn mpn mlo mtl (upz (upz (upz (upz K2 (17 + 5 * (u : Int)) (mkd (u : Int))) ((17 + 5 * (u : Int)) + 1) (mfg (u : Int))) (((17 + 5 * (u : Int)) + 1) + 1) (mag (u : Int))) ((((17 + 5 * (u : Int)) + 1) + 1) + 1) (mpo (u : Int))) mim mhi (((((17 + 5 * (u : Int)) + 1) + 1) + 1) + 1) mun msd mbe (mwy (u : Int)) (by omega)) rfl ok_X12_carry rfl rfl rfl rfl dX12_carryAll_153 (fun r w1 hp => ?_)
              obtain ⟨rfl, rfl⟩ := hp
              show Wx X 0 0 (WM X.γ a mh mn mkd mfg mag mpo mwy mdy mhw mkk mkf mrs mrm mrw mth maw mgr mwa mre mpl mib msn mpn mlo mtl (upz (upz (upz (upz (upz K2 (17 + 5 * (u : Int)) (mkd (u : Int))) ((17 + 5 * (u : Int)) + 1) (mfg (u : Int))) (((17 + 5 * (u : Int)) + 1) + 1) (mag (u : Int))) ((((17 + 5 * (u : Int)) + 1) + 1) + 1) (mpo (u : Int))) (((((17 + 5 * (u : Int)) + 1) + 1) + 1) + 1) (mwy (u : Int))) mim mhi ((((((17 + 5 * (u : Int)) + 1) + 1) + 1) + 1) + 1) 1 (.ref (a 18)) mun msd mbe) 156 [(3, .int (iN ((u : Int)))), (0, .ref (a 0)), (1, .ref (a 18)), (2, .int (iN (1)))] [.int (iN (mwy (u : Int))), .int (iN ((u : Int))), .ref (a 6)]
              refine x_iastore C (f := mwy) 6 rfl (by omega) rfl (WM X.γ a mh mn mkd mfg mag mpo (upz mwy (u : Int) (mwy (u : Int))) mdy mhw mkk mkf mrs mrm mrw mth maw mgr mwa mre mpl mib msn mpn mlo mtl (upz (upz (upz (upz (upz K2 (17 + 5 * (u : Int)) (mkd (u : Int))) ((17 + 5 * (u : Int)) + 1) (mfg (u : Int))) (((17 + 5 * (u : Int)) + 1) + 1) (mag (u : Int))) ((((17 + 5 * (u : Int)) + 1) + 1) + 1) (mpo (u : Int))) (((((17 + 5 * (u : Int)) + 1) + 1) + 1) + 1) (mwy (u : Int))) mim mhi ((((((17 + 5 * (u : Int)) + 1) + 1) + 1) + 1) + 1) 1 (.ref (a 18)) mun msd mbe) rfl dX12_carryAll_156 ?_
              refine x_canonI (f := upz mwy (u : Int) (mwy (u : Int))) (g := mwy) 6 rfl (fun j h1 h2 => by rw [upz_id]) (WM X.γ a mh mn mkd mfg mag mpo mwy mdy mhw mkk mkf mrs mrm mrw mth maw mgr mwa mre mpl mib msn mpn mlo mtl (upz (upz (upz (upz (upz K2 (17 + 5 * (u : Int)) (mkd (u : Int))) ((17 + 5 * (u : Int)) + 1) (mfg (u : Int))) (((17 + 5 * (u : Int)) + 1) + 1) (mag (u : Int))) ((((17 + 5 * (u : Int)) + 1) + 1) + 1) (mpo (u : Int))) (((((17 + 5 * (u : Int)) + 1) + 1) + 1) + 1) (mwy (u : Int))) mim mhi ((((((17 + 5 * (u : Int)) + 1) + 1) + 1) + 1) + 1) 1 (.ref (a 18)) mun msd mbe) rfl ?_
              refine x_iinc C 0 [(3, .int (iN ((u : Int) + 1))), (0, .ref (a 0)), (1, .ref (a 18)), (2, .int (iN (1)))] rfl rfl (by decide) rfl dX12_carryAll_157 ?_
              refine x_goto C 71 (by decide) dX12_carryAll_160 ?_
              refine Wx.eqW (ws' := (WM X.γ a mh mn mkd mfg mag mpo mwy mdy mhw mkk mkf mrs mrm mrw mth maw mgr mwa mre mpl mib msn mpn mlo mtl (upz (upz (upz (upz (upz K2 (17 + 5 * (u : Int)) (mkd (u : Int))) ((17 + 5 * (u : Int)) + 1) (mfg (u : Int))) (((17 + 5 * (u : Int)) + 1) + 1) (mag (u : Int))) ((((17 + 5 * (u : Int)) + 1) + 1) + 1) (mpo (u : Int))) (((((17 + 5 * (u : Int)) + 1) + 1) + 1) + 1) (mwy (u : Int))) mim mhi (17 + 5 * ((u + 1 : Nat) : Int)) 1 (.ref (a 18)) mun msd mbe)) (by rw [show ((((((17 + 5 * (u : Int)) + 1) + 1) + 1) + 1) + 1 : Int) = 17 + 5 * ((u + 1 : Nat) : Int) by omega]) ?_
              exact ih71 (u + 1) (upz (upz (upz (upz (upz K2 (17 + 5 * (u : Int)) (mkd (u : Int))) ((17 + 5 * (u : Int)) + 1) (mfg (u : Int))) (((17 + 5 * (u : Int)) + 1) + 1) (mag (u : Int))) ((((17 + 5 * (u : Int)) + 1) + 1) + 1) (mpo (u : Int))) (((((17 + 5 * (u : Int)) + 1) + 1) + 1) + 1) (mwy (u : Int))) _ (by omega) (by omega) (fun j h1 h2 => upz_up (m := 17 + 5 * (u : Int) + 1 + 1 + 1 + 1) (upz_up (m := 17 + 5 * (u : Int) + 1 + 1 + 1) (upz_up (m := 17 + 5 * (u : Int) + 1 + 1) (upz_up (m := 17 + 5 * (u : Int) + 1) (upz_up (m := 17 + 5 * (u : Int)) (F := pck mh mn mdy mkd mfg mag mpo mwy) hK2 (by unfold pck; rw [if_neg (by omega), if_neg (by omega), if_neg (by omega), if_pos (by omega)]; congr 1; omega)) (by unfold pck; rw [if_neg (by omega), if_neg (by omega), if_neg (by omega), if_neg (by omega), if_pos (by omega)]; congr 1; omega)) (by unfold pck; rw [if_neg (by omega), if_neg (by omega), if_neg (by omega), if_neg (by omega), if_neg (by omega), if_pos (by omega)]; congr 1; omega)) (by unfold pck; rw [if_neg (by omega), if_neg (by omega), if_neg (by omega), if_neg (by omega), if_neg (by omega), if_neg (by omega), if_pos (by omega)]; congr 1; omega)) (by unfold pck; rw [if_neg (by omega), if_neg (by omega), if_neg (by omega), if_neg (by omega), if_neg (by omega), if_neg (by omega), if_neg (by omega)]; congr 1; omega) j h1 (by omega)) (by omega)
        refine Wx.eqW (ws' := (WM X.γ a mh mn mkd mfg mag mpo mwy mdy mhw mkk mkf mrs mrm mrw mth maw mgr mwa mre mpl mib msn mpn mlo mtl K mim mhi (17 + 5 * ((0 : Nat) : Int)) 1 (.ref (a 18)) mun msd mbe)) (by rw [show (2 + (c : Int) : Int) = 17 + 5 * ((0 : Nat) : Int) by omega]) ?_
        exact LP71 ((6 - (0)) + 1) (0) (K) _ (by omega) (by omega) (fun j h1 h2 => hK j h1 (by omega)) (by omega)
      · refine x_aload_n C 1 rfl rfl dX12_carryAll_47 ?_
        refine x_get C in_X12_carryAll_X12 0 rfl rfl 0 (by decide) (List.mem_of_getElem? (i := 6) rfl) rfl (v := .ref (a 1)) rfl dX12_carryAll_48 ?_
        refine x_iload_n C 0 rfl rfl dX12_carryAll_51 ?_
        refine x_aload_n C 1 rfl rfl dX12_carryAll_52 ?_
        refine x_aload_n C 1 rfl rfl dX12_carryAll_53 ?_
        refine x_get C in_X12_carryAll_X12 0 rfl rfl 0 (by decide) (List.mem_of_getElem? (i := 6) rfl) rfl (v := .ref (a 1)) rfl dX12_carryAll_54 ?_
        refine x_iload_n C 0 rfl rfl dX12_carryAll_57 ?_
        refine x_iaload C (f := mh) 1 rfl (by omega) rfl dX12_carryAll_58 ?_
        refine x_V_I C (As := [.int (iN (mh (c : Int)))]) (rest := [.int (iN ((c : Int))), .ref (a 1)]) 1 0 rfl rfl gX12_carryAll_X12_carry rfl (c_X12_carry_ke1 _ _ a mh mn mkd mfg mag mpo mwy mdy mhw mkk mkf mrs mrm mrw mth maw mgr mwa mre mpl mib msn mpn mlo mtl K mim mhi (2 + (c : Int)) mun msd mbe (mh (c : Int)) (by omega)) rfl ok_X12_carry rfl rfl rfl rfl dX12_carryAll_59 (fun r w1 hp => ?_)
        obtain ⟨rfl, rfl⟩ := hp
        show Wx X 0 0 (WM X.γ a mh mn mkd mfg mag mpo mwy mdy mhw mkk mkf mrs mrm mrw mth maw mgr mwa mre mpl mib msn mpn mlo mtl (upz K (2 + (c : Int)) (mh (c : Int))) mim mhi ((2 + (c : Int)) + 1) 1 (.ref (a 18)) mun msd mbe) 62 [(3, .int (iN ((c : Int)))), (0, .ref (a 0)), (1, .ref (a 18)), (2, .int (iN (1)))] [.int (iN (mh (c : Int))), .int (iN ((c : Int))), .ref (a 1)]
        refine x_iastore C (f := mh) 1 rfl (by omega) rfl (WM X.γ a (upz mh (c : Int) (mh (c : Int))) mn mkd mfg mag mpo mwy mdy mhw mkk mkf mrs mrm mrw mth maw mgr mwa mre mpl mib msn mpn mlo mtl (upz K (2 + (c : Int)) (mh (c : Int))) mim mhi ((2 + (c : Int)) + 1) 1 (.ref (a 18)) mun msd mbe) rfl dX12_carryAll_62 ?_
        refine x_canonI (f := upz mh (c : Int) (mh (c : Int))) (g := mh) 1 rfl (fun j h1 h2 => by rw [upz_id]) (WM X.γ a mh mn mkd mfg mag mpo mwy mdy mhw mkk mkf mrs mrm mrw mth maw mgr mwa mre mpl mib msn mpn mlo mtl (upz K (2 + (c : Int)) (mh (c : Int))) mim mhi ((2 + (c : Int)) + 1) 1 (.ref (a 18)) mun msd mbe) rfl ?_
        refine x_iinc C 0 [(3, .int (iN ((c : Int) + 1))), (0, .ref (a 0)), (1, .ref (a 18)), (2, .int (iN (1)))] rfl rfl (by decide) rfl dX12_carryAll_63 ?_
        refine x_goto C 41 (by decide) dX12_carryAll_66 ?_
        refine Wx.eqW (ws' := (WM X.γ a mh mn mkd mfg mag mpo mwy mdy mhw mkk mkf mrs mrm mrw mth maw mgr mwa mre mpl mib msn mpn mlo mtl (upz K (2 + (c : Int)) (mh (c : Int))) mim mhi (2 + ((c + 1 : Nat) : Int)) 1 (.ref (a 18)) mun msd mbe)) (by rw [show ((2 + (c : Int)) + 1 : Int) = 2 + ((c + 1 : Nat) : Int) by omega]) ?_
        exact ih41 (c + 1) (upz K (2 + (c : Int)) (mh (c : Int))) _ (by omega) (by omega) (fun j h1 h2 => upz_up (m := 2 + (c : Int)) (F := pck mh mn mdy mkd mfg mag mpo mwy) hK (by unfold pck; rw [if_neg (by omega), if_neg (by omega), if_pos (by omega)]; congr 1; omega) j h1 (by omega)) (by omega)
  refine Wx.eqW (ws' := (WM X.γ a mh mn mkd mfg mag mpo mwy mdy mhw mkk mkf mrs mrm mrw mth maw mgr mwa mre mpl mib msn mpn mlo mtl (upz (upz mke 0 mn) (0 + 1) mdy) mim mhi (2 + ((0 : Nat) : Int)) 1 (.ref (a 18)) mun msd mbe)) (by rw [show ((0 + 1) + 1 : Int) = 2 + ((0 : Nat) : Int) by omega]) ?_
  exact LP41 ((15 - (0)) + 1) (0) (upz (upz mke 0 mn) (0 + 1) mdy) _ (by omega) (by omega) (fun j h1 h2 => upz_up (m := 1) (upz_up (m := 0) (F := pck mh mn mdy mkd mfg mag mpo mwy) (fun j h1 h2 => by omega) rfl) rfl j h1 (by omega)) (by omega)
set_option maxRecDepth 100000 in
set_option maxHeartbeats 400000 in
theorem c_X12_carryAll_ke0 (l : Launch) (γ : GX) (a : Nat → Nat) (mh : Int → Int) (mn : Int) (mkd : Int → Int) (mfg : Int → Int) (mag : Int → Int) (mpo : Int → Int) (mwy : Int → Int) (mdy : Int) (mhw : Int → Int) (mkk : Int → Int) (mkf : Int → Int) (mrs : Int → Int) (mrm : Int → Int) (mrw : Int → Int) (mth : Int) (maw : Int) (mgr : Int → Int) (mwa : Int → Int) (mre : Int) (mpl : Int) (mib : Int) (msn : Int) (mpn : Int → Int) (mlo : Int → Int) (mtl : Int → Int) (mke : Int → Int) (mim : Int → Int) (mhi : Int) (mp0 : Int) (mtk : Int) (mki : Value) (mun : Int → Int) (msd : Int) (mbe : Int → Int) (h0 : Int → Int) (n0 dy0 : Int) (kd0 fg0 ag0 po0 wy0 : Int → Int) (hq : ∀ j : Int, 0 ≤ j → j < 47 → mke j = pck h0 n0 dy0 kd0 fg0 ag0 po0 wy0 j) : MV l γ yX12_carryAll wsX12_carryAll rmX12_carryAll [.ref (a 0), .ref (a 18), .int (iN (0))] (WM γ a mh mn mkd mfg mag mpo mwy mdy mhw mkk mkf mrs mrm mrw mth maw mgr mwa mre mpl mib msn mpn mlo mtl mke mim mhi mp0 mtk mki mun msd mbe) (fun w_ => w_ = (WM γ a h0 n0 kd0 fg0 ag0 po0 wy0 dy0 mhw mkk mkf mrs mrm mrw mth maw mgr mwa mre mpl mib msn mpn mlo mtl mke mim mhi 47 0 (.ref (a 18)) mun msd mbe)) 0 0 := by
  refine MV.of (cc := cX12_carryAll) (maxL := 4) RX12 rfl (by decide +kernel) rfl (Nat.le_of_ble_eq_true rfl) ?_
  intro X C hγ hl hnm hret
  subst hγ
  show Wx X 0 0 (WM X.γ a mh mn mkd mfg mag mpo mwy mdy mhw mkk mkf mrs mrm mrw mth maw mgr mwa mre mpl mib msn mpn mlo mtl mke mim mhi mp0 mtk mki mun msd mbe) 0 [(0, .ref (a 0)), (1, .ref (a 18)), (2, .int (iN (0)))] []
  refine x_aload_n C 0 rfl rfl dX12_carryAll_0 ?_
  refine x_aload_n C 1 rfl rfl dX12_carryAll_1 ?_
  refine x_put C in_X12_carryAll_X12 tyX12 tyX12_ok nmX12 0 rfl rfl 30 (by decide) (List.mem_of_getElem? (i := 1) rfl) rfl rfl rfl rfl rfl (Nat.le_of_ble_eq_true rfl) (WM X.γ a mh mn mkd mfg mag mpo mwy mdy mhw mkk mkf mrs mrm mrw mth maw mgr mwa mre mpl mib msn mpn mlo mtl mke mim mhi mp0 mtk (.ref (a 18)) mun msd mbe) rfl dX12_carryAll_2 ?_
  refine x_aload_n C 0 rfl rfl dX12_carryAll_5 ?_
  refine x_iload_n C 2 rfl rfl dX12_carryAll_6 ?_
  refine x_put C in_X12_carryAll_X12 tyX12 tyX12_ok nmX12 0 rfl rfl 29 (by decide) (List.mem_of_getElem? (i := 2) rfl) rfl rfl rfl (nar_z (by decide)) (fits_z (by decide)) (Nat.le_of_ble_eq_true rfl) (WM X.γ a mh mn mkd mfg mag mpo mwy mdy mhw mkk mkf mrs mrm mrw mth maw mgr mwa mre mpl mib msn mpn mlo mtl mke mim mhi mp0 0 (.ref (a 18)) mun msd mbe) rfl dX12_carryAll_7 ?_
  refine x_aload_n C 0 rfl rfl dX12_carryAll_10 ?_
  refine x_iconst (v := 0) C dX12_carryAll_11 ?_
  refine x_put C in_X12_carryAll_X12 tyX12 tyX12_ok nmX12 0 rfl rfl 28 (by decide) (List.mem_of_getElem? (i := 3) rfl) rfl rfl rfl rfl rfl (Nat.le_of_ble_eq_true rfl) (WM X.γ a mh mn mkd mfg mag mpo mwy mdy mhw mkk mkf mrs mrm mrw mth maw mgr mwa mre mpl mib msn mpn mlo mtl mke mim mhi 0 0 (.ref (a 18)) mun msd mbe) rfl dX12_carryAll_12 ?_
  refine x_aload_n C 0 rfl rfl dX12_carryAll_15 ?_
  refine x_aload_n C 0 rfl rfl dX12_carryAll_16 ?_
  refine x_aload_n C 0 rfl rfl dX12_carryAll_17 ?_
  refine x_get C in_X12_carryAll_X12 0 rfl rfl 1 (by decide) (List.mem_of_getElem? (i := 4) rfl) rfl (v := .int (iN (mn))) rfl dX12_carryAll_18 ?_
  refine x_V_I C (As := [.int (iN (mn))]) (rest := [.ref (a 0)]) 1 0 rfl rfl gX12_carryAll_X12_carry rfl (c_X12_carry_ke0 _ _ a mh mn mkd mfg mag mpo mwy mdy mhw mkk mkf mrs mrm mrw mth maw mgr mwa mre mpl mib msn mpn mlo mtl mke mim mhi 0 mun msd mbe (mn) (by omega)) rfl ok_X12_carry rfl rfl rfl rfl dX12_carryAll_21 (fun r w1 hp => ?_)
  obtain ⟨rfl, rfl⟩ := hp
  show Wx X 0 0 (WM X.γ a mh mn mkd mfg mag mpo mwy mdy mhw mkk mkf mrs mrm mrw mth maw mgr mwa mre mpl mib msn mpn mlo mtl mke mim mhi (0 + 1) 0 (.ref (a 18)) mun msd mbe) 24 [(0, .ref (a 0)), (1, .ref (a 18)), (2, .int (iN (0)))] [.int (iN (mke 0)), .ref (a 0)]
  rw [show mke 0 = n0 from by rw [hq _ (by omega) (by omega)]; exact rfl]
  refine x_put C in_X12_carryAll_X12 tyX12 tyX12_ok nmX12 0 rfl rfl 1 (by decide) (List.mem_of_getElem? (i := 4) rfl) rfl rfl rfl rfl rfl (Nat.le_of_ble_eq_true rfl) (WM X.γ a mh n0 mkd mfg mag mpo mwy mdy mhw mkk mkf mrs mrm mrw mth maw mgr mwa mre mpl mib msn mpn mlo mtl mke mim mhi (0 + 1) 0 (.ref (a 18)) mun msd mbe) rfl dX12_carryAll_24 ?_
  refine x_aload_n C 0 rfl rfl dX12_carryAll_27 ?_
  refine x_aload_n C 0 rfl rfl dX12_carryAll_28 ?_
  refine x_aload_n C 0 rfl rfl dX12_carryAll_29 ?_
  refine x_get C in_X12_carryAll_X12 0 rfl rfl 7 (by decide) (List.mem_of_getElem? (i := 5) rfl) rfl (v := .int (iN (mdy))) rfl dX12_carryAll_30 ?_
  refine x_V_I C (As := [.int (iN (mdy))]) (rest := [.ref (a 0)]) 1 0 rfl rfl gX12_carryAll_X12_carry rfl (c_X12_carry_ke0 _ _ a mh n0 mkd mfg mag mpo mwy mdy mhw mkk mkf mrs mrm mrw mth maw mgr mwa mre mpl mib msn mpn mlo mtl mke mim mhi (0 + 1) mun msd mbe (mdy) (by omega)) rfl ok_X12_carry rfl rfl rfl rfl dX12_carryAll_33 (fun r w1 hp => ?_)
  obtain ⟨rfl, rfl⟩ := hp
  show Wx X 0 0 (WM X.γ a mh n0 mkd mfg mag mpo mwy mdy mhw mkk mkf mrs mrm mrw mth maw mgr mwa mre mpl mib msn mpn mlo mtl mke mim mhi ((0 + 1) + 1) 0 (.ref (a 18)) mun msd mbe) 36 [(0, .ref (a 0)), (1, .ref (a 18)), (2, .int (iN (0)))] [.int (iN (mke (0 + 1))), .ref (a 0)]
  rw [show mke (0 + 1) = dy0 from by rw [hq _ (by omega) (by omega)]; exact rfl]
  refine x_put C in_X12_carryAll_X12 tyX12 tyX12_ok nmX12 0 rfl rfl 7 (by decide) (List.mem_of_getElem? (i := 5) rfl) rfl rfl rfl rfl rfl (Nat.le_of_ble_eq_true rfl) (WM X.γ a mh n0 mkd mfg mag mpo mwy dy0 mhw mkk mkf mrs mrm mrw mth maw mgr mwa mre mpl mib msn mpn mlo mtl mke mim mhi ((0 + 1) + 1) 0 (.ref (a 18)) mun msd mbe) rfl dX12_carryAll_36 ?_
  refine x_iconst (v := 0) C dX12_carryAll_39 ?_
  refine x_istore_n C [(3, .int (iN (0))), (0, .ref (a 0)), (1, .ref (a 18)), (2, .int (iN (0)))] rfl (by decide) rfl dX12_carryAll_40 ?_
  have LP41 : ∀ (f : Nat) (c : Nat) (H : Int → Int) (v3_41 : Int), (15 - c < f) → (c ≤ 15) → (∀ j : Int, 0 ≤ j → j < (c : Int) → H j = h0 j) → (((c : Int)) = v3_41) → Wx X 0 0 (WM X.γ a H n0 mkd mfg mag mpo mwy dy0 mhw mkk mkf mrs mrm mrw mth maw mgr mwa mre mpl mib msn mpn mlo mtl mke mim mhi (2 + (c : Int)) 0 (.ref (a 18)) mun msd mbe) 41 [(3, .int (iN (v3_41))), (0, .ref (a 0)), (1, .ref (a 18)), (2, .int (iN (0)))] [] := by
    intro f
    induction f with
    | zero => intro c H v3_41 hf; exact absurd hf (Nat.not_lt_zero _)
    | succ f ih41 =>
      intro c H v3_41 hf hc hH e3_41
      subst e3_41
      refine x_iload_n C 0 rfl rfl dX12_carryAll_41 ?_
      refine x_bipush C (15) (by decide) dX12_carryAll_42 ?_
      refine x_icmp_ge C 69 (by decide) (by omega) dX12_carryAll_44 (fun c_44 => ?_) (fun c_44 => ?_)
      · refine x_canonI (f := H) (g := h0) 1 rfl (fun j h1 h2 => hH j h1 (by omega)) (WM X.γ a h0 n0 mkd mfg mag mpo mwy dy0 mhw mkk mkf mrs mrm mrw mth maw mgr mwa mre mpl mib msn mpn mlo mtl mke mim mhi (2 + (c : Int)) 0 (.ref (a 18)) mun msd mbe) rfl ?_
        refine x_iconst (v := 0) C dX12_carryAll_69 ?_
        refine x_istore_n C [(3, .int (iN (0))), (0, .ref (a 0)), (1, .ref (a 18)), (2, .int (iN (0)))] rfl (by decide) rfl dX12_carryAll_70 ?_
        have LP71 : ∀ (f : Nat) (u : Nat) (Gkd : Int → Int) (Gfg : Int → Int) (Gag : Int → Int) (Gpo : Int → Int) (Gwy : Int → Int) (v3_71 : Int), (6 - u < f) → (u ≤ 6) → (∀ j : Int, 0 ≤ j → j < (u : Int) → Gkd j = kd0 j) → (∀ j : Int, 0 ≤ j → j < (u : Int) → Gfg j = fg0 j) → (∀ j : Int, 0 ≤ j → j < (u : Int) → Gag j = ag0 j) → (∀ j : Int, 0 ≤ j → j < (u : Int) → Gpo j = po0 j) → (∀ j : Int, 0 ≤ j → j < (u : Int) → Gwy j = wy0 j) → (((u : Int)) = v3_71) → Wx X 0 0 (WM X.γ a h0 n0 Gkd Gfg Gag Gpo Gwy dy0 mhw mkk mkf mrs mrm mrw mth maw mgr mwa mre mpl mib msn mpn mlo mtl mke mim mhi (17 + 5 * (u : Int)) 0 (.ref (a 18)) mun msd mbe) 71 [(3, .int (iN (v3_71))), (0, .ref (a 0)), (1, .ref (a 18)), (2, .int (iN (0)))] [] := by
          intro f
          induction f with
          | zero => intro u Gkd Gfg Gag Gpo Gwy v3_71 hf; exact absurd hf (Nat.not_lt_zero _)
          | succ f ih71 =>
            intro u Gkd Gfg Gag Gpo Gwy v3_71 hf hu hkd hfg hag hpo hwy e3_71
            subst e3_71
            refine x_iload_n C 0 rfl rfl dX12_carryAll_71 ?_
            refine x_bipush C (6) (by decide) dX12_carryAll_72 ?_
            refine x_icmp_ge C 163 (by decide) (by omega) dX12_carryAll_74 (fun c_74 => ?_) (fun c_74 => ?_)
            · refine Wx.eqW (ws' := (WM X.γ a h0 n0 Gkd Gfg Gag Gpo Gwy dy0 mhw mkk mkf mrs mrm mrw mth maw mgr mwa mre mpl mib msn mpn mlo mtl mke mim mhi 47 0 (.ref (a 18)) mun msd mbe)) (by rw [show (17 + 5 * (u : Int) : Int) = 47 by omega]) ?_
              refine x_canonI (f := Gkd) (g := kd0) 2 rfl (fun j h1 h2 => hkd j h1 (by omega)) (WM X.γ a h0 n0 kd0 Gfg Gag Gpo Gwy dy0 mhw mkk mkf mrs mrm mrw mth maw mgr mwa mre mpl mib msn mpn mlo mtl mke mim mhi 47 0 (.ref (a 18)) mun msd mbe) rfl ?_
              refine x_canonI (f := Gfg) (g := fg0) 3 rfl (fun j h1 h2 => hfg j h1 (by omega)) (WM X.γ a h0 n0 kd0 fg0 Gag Gpo Gwy dy0 mhw mkk mkf mrs mrm mrw mth maw mgr mwa mre mpl mib msn mpn mlo mtl mke mim mhi 47 0 (.ref (a 18)) mun msd mbe) rfl ?_
              refine x_canonI (f := Gag) (g := ag0) 4 rfl (fun j h1 h2 => hag j h1 (by omega)) (WM X.γ a h0 n0 kd0 fg0 ag0 Gpo Gwy dy0 mhw mkk mkf mrs mrm mrw mth maw mgr mwa mre mpl mib msn mpn mlo mtl mke mim mhi 47 0 (.ref (a 18)) mun msd mbe) rfl ?_
              refine x_canonI (f := Gpo) (g := po0) 5 rfl (fun j h1 h2 => hpo j h1 (by omega)) (WM X.γ a h0 n0 kd0 fg0 ag0 po0 Gwy dy0 mhw mkk mkf mrs mrm mrw mth maw mgr mwa mre mpl mib msn mpn mlo mtl mke mim mhi 47 0 (.ref (a 18)) mun msd mbe) rfl ?_
              refine x_canonI (f := Gwy) (g := wy0) 6 rfl (fun j h1 h2 => hwy j h1 (by omega)) (WM X.γ a h0 n0 kd0 fg0 ag0 po0 wy0 dy0 mhw mkk mkf mrs mrm mrw mth maw mgr mwa mre mpl mib msn mpn mlo mtl mke mim mhi 47 0 (.ref (a 18)) mun msd mbe) rfl ?_
              exact hret _ _ _ dX12_carryAll_163 rfl
            · refine x_aload_n C 1 rfl rfl dX12_carryAll_77 ?_
              refine x_get C in_X12_carryAll_X12 0 rfl rfl 2 (by decide) (List.mem_of_getElem? (i := 7) rfl) rfl (v := .ref (a 2)) rfl dX12_carryAll_78 ?_
              refine x_iload_n C 0 rfl rfl dX12_carryAll_81 ?_
              refine x_aload_n C 1 rfl rfl dX12_carryAll_82 ?_
              refine x_aload_n C 1 rfl rfl dX12_carryAll_83 ?_
              refine x_get C in_X12_carryAll_X12 0 rfl rfl 2 (by decide) (List.mem_of_getElem? (i := 7) rfl) rfl (v := .ref (a 2)) rfl dX12_carryAll_84 ?_
              refine x_iload_n C 0 rfl rfl dX12_carryAll_87 ?_
              refine x_iaload C (f := Gkd) 2 rfl (by omega) rfl dX12_carryAll_88 ?_
              refine x_V_I C (As := [.int (iN (Gkd (u : Int)))]) (rest := [.int (iN ((u : Int))), .ref (a 2)]) 1 0 rfl rfl gX12_carryAll_X12_carry rfl (c_X12_carry_ke0 _ _ a h0 n0 Gkd Gfg Gag Gpo Gwy dy0 mhw mkk mkf mrs mrm mrw mth maw mgr mwa mre mpl mib msn mpn mlo mtl mke mim mhi (17 + 5 * (u : Int)) mun msd mbe (Gkd (u : Int)) (by omega)) rfl ok_X12_carry rfl rfl rfl rfl dX12_carryAll_89 (fun r w1 hp => ?_)
              obtain ⟨rfl, rfl⟩ := hp
              show Wx X 0 0 (WM X.γ a h0 n0 Gkd Gfg Gag Gpo Gwy dy0 mhw mkk mkf mrs mrm mrw mth maw mgr mwa mre mpl mib msn mpn mlo mtl mke mim mhi ((17 + 5 * (u : Int)) + 1) 0 (.ref (a 18)) mun msd mbe) 92 [(3, .int (iN ((u : Int)))), (0, .ref (a 0)), (1, .ref (a 18)), (2, .int (iN (0)))] [.int (iN (mke (17 + 5 * (u : Int)))), .int (iN ((u : Int))), .ref (a 2)]
              rw [show mke (17 + 5 * (u : Int)) = kd0 (u : Int) from by rw [hq _ (by omega) (by omega)]; exact (by unfold pck; rw [if_neg (by omega), if_neg (by omega), if_neg (by omega), if_pos (by omega)]; congr 1; omega)]
              refine x_iastore C (f := Gkd) 2 rfl (by omega) rfl (WM X.γ a h0 n0 (upz Gkd (u : Int) (kd0 (u : Int))) Gfg Gag Gpo Gwy dy0 mhw mkk mkf mrs mrm mrw mth maw mgr mwa mre mpl mib msn mpn mlo mtl mke mim mhi ((17 + 5 * (u : Int)) + 1) 0 (.ref (a 18)) mun msd mbe) rfl dX12_carryAll_92 ?_
              refine x_aload_n C 1 rfl rfl dX12_carryAll_93 ?_
              refine x_get C in_X12_carryAll_X12 0 rfl rfl 3 (by decide) (List.mem_of_getElem? (i := 8) rfl) rfl (v := .ref (a 3)) rfl dX12_carryAll_94 ?_
              refine x_iload_n C 0 rfl rfl dX12_carryAll_97 ?_
              refine x_aload_n C 1 rfl rfl dX12_carryAll_98 ?_
              refine x_aload_n C 1 rfl rfl dX12_carryAll_99 ?_
              refine x_get C in_X12_carryAll_X12 0 rfl rfl 3 (by decide) (List.mem_of_getElem? (i := 8) rfl) rfl (v := .ref (a 3)) rfl dX12_carryAll_100 ?_
              refine x_iload_n C 0 rfl rfl dX12_carryAll_103 ?_
              refine x_iaload C (f := Gfg) 3 rfl (by omega) rfl dX12_carryAll_104 ?_
              refine x_V_I C (As := [.int (iN (Gfg (u : Int)))]) (rest := [.int (iN ((u : Int))), .ref (a 3)]) 1 0 rfl rfl gX12_carryAll_X12_carry rfl (c_X12_carry_ke0 _ _ a h0 n0 (upz Gkd (u : Int) (kd0 (u : Int))) Gfg Gag Gpo Gwy dy0 mhw mkk mkf mrs mrm mrw mth maw mgr mwa mre mpl mib msn mpn mlo mtl mke mim mhi ((17 + 5 * (u : Int)) + 1) mun msd mbe (Gfg (u : Int)) (by omega)) rfl ok_X12_carry rfl rfl rfl rfl dX12_carryAll_105 (fun r w1 hp => ?_)
              obtain ⟨rfl, rfl⟩ := hp
              show Wx X 0 0 (WM X.γ a h0 n0 (upz Gkd (u : Int) (kd0 (u : Int))) Gfg Gag Gpo Gwy dy0 mhw mkk mkf mrs mrm mrw mth maw mgr mwa mre mpl mib msn mpn mlo mtl mke mim mhi (((17 + 5 * (u : Int)) + 1) + 1) 0 (.ref (a 18)) mun msd mbe) 108 [(3, .int (iN ((u : Int)))), (0, .ref (a 0)), (1, .ref (a 18)), (2, .int (iN (0)))] [.int (iN (mke ((17 + 5 * (u : Int)) + 1))), .int (iN ((u : Int))), .ref (a 3)]
              rw [show mke ((17 + 5 * (u : Int)) + 1) = fg0 (u : Int) from by rw [hq _ (by omega) (by omega)]; exact (by unfold pck; rw [if_neg (by omega), if_neg (by omega), if_neg (by omega), if_neg (by omega), if_pos (by omega)]; congr 1; omega)]
              refine x_iastore C (f := Gfg) 3 rfl (by omega) rfl (WM X.γ a h0 n0 (upz Gkd (u : Int) (kd0 (u : Int))) (upz Gfg (u : Int) (fg0 (u : Int))) Gag Gpo Gwy dy0 mhw mkk mkf mrs mrm mrw mth maw mgr mwa mre mpl mib msn mpn mlo mtl mke mim mhi (((17 + 5 * (u : Int)) + 1) + 1) 0 (.ref (a 18)) mun msd mbe) rfl dX12_carryAll_108 ?_
              refine x_aload_n C 1 rfl rfl dX12_carryAll_109 ?_
              refine x_get C in_X12_carryAll_X12 0 rfl rfl 4 (by decide) (List.mem_of_getElem? (i := 9) rfl) rfl (v := .ref (a 4)) rfl dX12_carryAll_110 ?_
              refine x_iload_n C 0 rfl rfl dX12_carryAll_113 ?_
              refine x_aload_n C 1 rfl rfl dX12_carryAll_114 ?_
              refine x_aload_n C 1 rfl rfl dX12_carryAll_115 ?_
              refine x_get C in_X12_carryAll_X12 0 rfl rfl 4 (by decide) (List.mem_of_getElem? (i := 9) rfl) rfl (v := .ref (a 4)) rfl dX12_carryAll_116 ?_
              refine x_iload_n C 0 rfl rfl dX12_carryAll_119 ?_
              refine x_iaload C (f := Gag) 4 rfl (by omega) rfl dX12_carryAll_120 ?_
              refine x_V_I C (As := [.int (iN (Gag (u : Int)))]) (rest := [.int (iN ((u : Int))), .ref (a 4)]) 1 0 rfl rfl gX12_carryAll_X12_carry rfl (c_X12_carry_ke0 _ _ a h0 n0 (upz Gkd (u : Int) (kd0 (u : Int))) (upz Gfg (u : Int) (fg0 (u : Int))) Gag Gpo Gwy dy0 mhw mkk mkf mrs mrm mrw mth maw mgr mwa mre mpl mib msn mpn mlo mtl mke mim mhi (((17 + 5 * (u : Int)) + 1) + 1) mun msd mbe (Gag (u : Int)) (by omega)) rfl ok_X12_carry rfl rfl rfl rfl dX12_carryAll_121 (fun r w1 hp => ?_)
              obtain ⟨rfl, rfl⟩ := hp
              show Wx X 0 0 (WM X.γ a h0 n0 (upz Gkd (u : Int) (kd0 (u : Int))) (upz Gfg (u : Int) (fg0 (u : Int))) Gag Gpo Gwy dy0 mhw mkk mkf mrs mrm mrw mth maw mgr mwa mre mpl mib msn mpn mlo mtl mke mim mhi ((((17 + 5 * (u : Int)) + 1) + 1) + 1) 0 (.ref (a 18)) mun msd mbe) 124 [(3, .int (iN ((u : Int)))), (0, .ref (a 0)), (1, .ref (a 18)), (2, .int (iN (0)))] [.int (iN (mke (((17 + 5 * (u : Int)) + 1) + 1))), .int (iN ((u : Int))), .ref (a 4)]
              rw [show mke (((17 + 5 * (u : Int)) + 1) + 1) = ag0 (u : Int) from by rw [hq _ (by omega) (by omega)]; exact (by unfold pck; rw [if_neg (by omega), if_neg (by omega), if_neg (by omega), if_neg (by omega), if_neg (by omega), if_pos (by omega)]; congr 1; omega)]
              refine x_iastore C (f := Gag) 4 rfl (by omega) rfl (WM X.γ a h0 n0 (upz Gkd (u : Int) (kd0 (u : Int))) (upz Gfg (u : Int) (fg0 (u : Int))) (upz Gag (u : Int) (ag0 (u : Int))) Gpo Gwy dy0 mhw mkk mkf mrs mrm mrw mth maw mgr mwa mre mpl mib msn mpn mlo mtl mke mim mhi ((((17 + 5 * (u : Int)) + 1) + 1) + 1) 0 (.ref (a 18)) mun msd mbe) rfl dX12_carryAll_124 ?_
              refine x_aload_n C 1 rfl rfl dX12_carryAll_125 ?_
              refine x_get C in_X12_carryAll_X12 0 rfl rfl 5 (by decide) (List.mem_of_getElem? (i := 10) rfl) rfl (v := .ref (a 5)) rfl dX12_carryAll_126 ?_
              refine x_iload_n C 0 rfl rfl dX12_carryAll_129 ?_
              refine x_aload_n C 1 rfl rfl dX12_carryAll_130 ?_
              refine x_aload_n C 1 rfl rfl dX12_carryAll_131 ?_
              refine x_get C in_X12_carryAll_X12 0 rfl rfl 5 (by decide) (List.mem_of_getElem? (i := 10) rfl) rfl (v := .ref (a 5)) rfl dX12_carryAll_132 ?_
              refine x_iload_n C 0 rfl rfl dX12_carryAll_135 ?_
              refine x_iaload C (f := Gpo) 5 rfl (by omega) rfl dX12_carryAll_136 ?_
              refine x_V_I C (As := [.int (iN (Gpo (u : Int)))]) (rest := [.int (iN ((u : Int))), .ref (a 5)]) 1 0 rfl rfl gX12_carryAll_X12_carry rfl (c_X12_carry_ke0 _ _ a h0 n0 (upz Gkd (u : Int) (kd0 (u : Int))) (upz Gfg (u : Int) (fg0 (u : Int))) (upz Gag (u : Int) (ag0 (u : Int))) Gpo Gwy dy0 mhw mkk mkf mrs mrm mrw mth maw mgr mwa mre mpl mib msn mpn mlo mtl mke mim mhi ((((17 + 5 * (u : Int)) + 1) + 1) + 1) mun msd mbe (Gpo (u : Int)) (by omega)) rfl ok_X12_carry rfl rfl rfl rfl dX12_carryAll_137 (fun r w1 hp => ?_)
              obtain ⟨rfl, rfl⟩ := hp
              show Wx X 0 0 (WM X.γ a h0 n0 (upz Gkd (u : Int) (kd0 (u : Int))) (upz Gfg (u : Int) (fg0 (u : Int))) (upz Gag (u : Int) (ag0 (u : Int))) Gpo Gwy dy0 mhw mkk mkf mrs mrm mrw mth maw mgr mwa mre mpl mib msn mpn mlo mtl mke mim mhi (((((17 + 5 * (u : Int)) + 1) + 1) + 1) + 1) 0 (.ref (a 18)) mun msd mbe) 140 [(3, .int (iN ((u : Int)))), (0, .ref (a 0)), (1, .ref (a 18)), (2, .int (iN (0)))] [.int (iN (mke ((((17 + 5 * (u : Int)) + 1) + 1) + 1))), .int (iN ((u : Int))), .ref (a 5)]
              rw [show mke ((((17 + 5 * (u : Int)) + 1) + 1) + 1) = po0 (u : Int) from by rw [hq _ (by omega) (by omega)]; exact (by unfold pck; rw [if_neg (by omega), if_neg (by omega), if_neg (by omega), if_neg (by omega), if_neg (by omega), if_neg (by omega), if_pos (by omega)]; congr 1; omega)]
              refine x_iastore C (f := Gpo) 5 rfl (by omega) rfl (WM X.γ a h0 n0 (upz Gkd (u : Int) (kd0 (u : Int))) (upz Gfg (u : Int) (fg0 (u : Int))) (upz Gag (u : Int) (ag0 (u : Int))) (upz Gpo (u : Int) (po0 (u : Int))) Gwy dy0 mhw mkk mkf mrs mrm mrw mth maw mgr mwa mre mpl mib msn mpn mlo mtl mke mim mhi (((((17 + 5 * (u : Int)) + 1) + 1) + 1) + 1) 0 (.ref (a 18)) mun msd mbe) rfl dX12_carryAll_140 ?_
              refine x_aload_n C 1 rfl rfl dX12_carryAll_141 ?_
              refine x_get C in_X12_carryAll_X12 0 rfl rfl 6 (by decide) (List.mem_of_getElem? (i := 11) rfl) rfl (v := .ref (a 6)) rfl dX12_carryAll_142 ?_
              refine x_iload_n C 0 rfl rfl dX12_carryAll_145 ?_
              refine x_aload_n C 1 rfl rfl dX12_carryAll_146 ?_
              refine x_aload_n C 1 rfl rfl dX12_carryAll_147 ?_
              refine x_get C in_X12_carryAll_X12 0 rfl rfl 6 (by decide) (List.mem_of_getElem? (i := 11) rfl) rfl (v := .ref (a 6)) rfl dX12_carryAll_148 ?_
              refine x_iload_n C 0 rfl rfl dX12_carryAll_151 ?_
              refine x_iaload C (f := Gwy) 6 rfl (by omega) rfl dX12_carryAll_152 ?_
              refine x_V_I C (As := [.int (iN (Gwy (u : Int)))]) (rest := [.int (iN ((u : Int))), .ref (a 6)]) 1 0 rfl rfl gX12_carryAll_X12_carry rfl (c_X12_carry_ke0 _ _ a h0 n0 (upz Gkd (u : Int) (kd0 (u : Int))) (upz Gfg (u : Int) (fg0 (u : Int))) (upz Gag (u : Int) (ag0 (u : Int))) (upz Gpo (u : Int) (po0 (u : Int))) Gwy dy0 mhw mkk mkf mrs mrm mrw mth maw mgr mwa mre mpl mib msn mpn mlo mtl mke mim mhi (((((17 + 5 * (u : Int)) + 1) + 1) + 1) + 1) mun msd mbe (Gwy (u : Int)) (by omega)) rfl ok_X12_carry rfl rfl rfl rfl dX12_carryAll_153 (fun r w1 hp => ?_)
              obtain ⟨rfl, rfl⟩ := hp
              show Wx X 0 0 (WM X.γ a h0 n0 (upz Gkd (u : Int) (kd0 (u : Int))) (upz Gfg (u : Int) (fg0 (u : Int))) (upz Gag (u : Int) (ag0 (u : Int))) (upz Gpo (u : Int) (po0 (u : Int))) Gwy dy0 mhw mkk mkf mrs mrm mrw mth maw mgr mwa mre mpl mib msn mpn mlo mtl mke mim mhi ((((((17 + 5 * (u : Int)) + 1) + 1) + 1) + 1) + 1) 0 (.ref (a 18)) mun msd mbe) 156 [(3, .int (iN ((u : Int)))), (0, .ref (a 0)), (1, .ref (a 18)), (2, .int (iN (0)))] [.int (iN (mke (((((17 + 5 * (u : Int)) + 1) + 1) + 1) + 1))), .int (iN ((u : Int))), .ref (a 6)]
              rw [show mke (((((17 + 5 * (u : Int)) + 1) + 1) + 1) + 1) = wy0 (u : Int) from by rw [hq _ (by omega) (by omega)]; exact (by unfold pck; rw [if_neg (by omega), if_neg (by omega), if_neg (by omega), if_neg (by omega), if_neg (by omega), if_neg (by omega), if_neg (by omega)]; congr 1; omega)]
              refine x_iastore C (f := Gwy) 6 rfl (by omega) rfl (WM X.γ a h0 n0 (upz Gkd (u : Int) (kd0 (u : Int))) (upz Gfg (u : Int) (fg0 (u : Int))) (upz Gag (u : Int) (ag0 (u : Int))) (upz Gpo (u : Int) (po0 (u : Int))) (upz Gwy (u : Int) (wy0 (u : Int))) dy0 mhw mkk mkf mrs mrm mrw mth maw mgr mwa mre mpl mib msn mpn mlo mtl mke mim mhi ((((((17 + 5 * (u : Int)) + 1) + 1) + 1) + 1) + 1) 0 (.ref (a 18)) mun msd mbe) rfl dX12_carryAll_156 ?_
              refine x_iinc C 0 [(3, .int (iN ((u : Int) + 1))), (0, .ref (a 0)), (1, .ref (a 18)), (2, .int (iN (0)))] rfl rfl (by decide) rfl dX12_carryAll_157 ?_
              refine x_goto C 71 (by decide) dX12_carryAll_160 ?_
              refine Wx.eqW (ws' := (WM X.γ a h0 n0 (upz Gkd (u : Int) (kd0 (u : Int))) (upz Gfg (u : Int) (fg0 (u : Int))) (upz Gag (u : Int) (ag0 (u : Int))) (upz Gpo (u : Int) (po0 (u : Int))) (upz Gwy (u : Int) (wy0 (u : Int))) dy0 mhw mkk mkf mrs mrm mrw mth maw mgr mwa mre mpl mib msn mpn mlo mtl mke mim mhi (17 + 5 * ((u + 1 : Nat) : Int)) 0 (.ref (a 18)) mun msd mbe)) (by rw [show ((((((17 + 5 * (u : Int)) + 1) + 1) + 1) + 1) + 1 : Int) = 17 + 5 * ((u + 1 : Nat) : Int) by omega]) ?_
              exact ih71 (u + 1) (upz Gkd (u : Int) (kd0 (u : Int))) (upz Gfg (u : Int) (fg0 (u : Int))) (upz Gag (u : Int) (ag0 (u : Int))) (upz Gpo (u : Int) (po0 (u : Int))) (upz Gwy (u : Int) (wy0 (u : Int))) _ (by omega) (by omega) (fun j h1 h2 => upz_up hkd rfl j h1 (by omega)) (fun j h1 h2 => upz_up hfg rfl j h1 (by omega)) (fun j h1 h2 => upz_up hag rfl j h1 (by omega)) (fun j h1 h2 => upz_up hpo rfl j h1 (by omega)) (fun j h1 h2 => upz_up hwy rfl j h1 (by omega)) (by omega)
        refine Wx.eqW (ws' := (WM X.γ a h0 n0 mkd mfg mag mpo mwy dy0 mhw mkk mkf mrs mrm mrw mth maw mgr mwa mre mpl mib msn mpn mlo mtl mke mim mhi (17 + 5 * ((0 : Nat) : Int)) 0 (.ref (a 18)) mun msd mbe)) (by rw [show (2 + (c : Int) : Int) = 17 + 5 * ((0 : Nat) : Int) by omega]) ?_
        exact LP71 ((6 - (0)) + 1) (0) (mkd) (mfg) (mag) (mpo) (mwy) _ (by omega) (by omega) (fun j h1 h2 => by omega) (fun j h1 h2 => by omega) (fun j h1 h2 => by omega) (fun j h1 h2 => by omega) (fun j h1 h2 => by omega) (by omega)
      · refine x_aload_n C 1 rfl rfl dX12_carryAll_47 ?_
        refine x_get C in_X12_carryAll_X12 0 rfl rfl 0 (by decide) (List.mem_of_getElem? (i := 6) rfl) rfl (v := .ref (a 1)) rfl dX12_carryAll_48 ?_
        refine x_iload_n C 0 rfl rfl dX12_carryAll_51 ?_
        refine x_aload_n C 1 rfl rfl dX12_carryAll_52 ?_
        refine x_aload_n C 1 rfl rfl dX12_carryAll_53 ?_
        refine x_get C in_X12_carryAll_X12 0 rfl rfl 0 (by decide) (List.mem_of_getElem? (i := 6) rfl) rfl (v := .ref (a 1)) rfl dX12_carryAll_54 ?_
        refine x_iload_n C 0 rfl rfl dX12_carryAll_57 ?_
        refine x_iaload C (f := H) 1 rfl (by omega) rfl dX12_carryAll_58 ?_
        refine x_V_I C (As := [.int (iN (H (c : Int)))]) (rest := [.int (iN ((c : Int))), .ref (a 1)]) 1 0 rfl rfl gX12_carryAll_X12_carry rfl (c_X12_carry_ke0 _ _ a H n0 mkd mfg mag mpo mwy dy0 mhw mkk mkf mrs mrm mrw mth maw mgr mwa mre mpl mib msn mpn mlo mtl mke mim mhi (2 + (c : Int)) mun msd mbe (H (c : Int)) (by omega)) rfl ok_X12_carry rfl rfl rfl rfl dX12_carryAll_59 (fun r w1 hp => ?_)
        obtain ⟨rfl, rfl⟩ := hp
        show Wx X 0 0 (WM X.γ a H n0 mkd mfg mag mpo mwy dy0 mhw mkk mkf mrs mrm mrw mth maw mgr mwa mre mpl mib msn mpn mlo mtl mke mim mhi ((2 + (c : Int)) + 1) 0 (.ref (a 18)) mun msd mbe) 62 [(3, .int (iN ((c : Int)))), (0, .ref (a 0)), (1, .ref (a 18)), (2, .int (iN (0)))] [.int (iN (mke (2 + (c : Int)))), .int (iN ((c : Int))), .ref (a 1)]
        rw [show mke (2 + (c : Int)) = h0 (c : Int) from by rw [hq _ (by omega) (by omega)]; exact (by unfold pck; rw [if_neg (by omega), if_neg (by omega), if_pos (by omega)]; congr 1; omega)]
        refine x_iastore C (f := H) 1 rfl (by omega) rfl (WM X.γ a (upz H (c : Int) (h0 (c : Int))) n0 mkd mfg mag mpo mwy dy0 mhw mkk mkf mrs mrm mrw mth maw mgr mwa mre mpl mib msn mpn mlo mtl mke mim mhi ((2 + (c : Int)) + 1) 0 (.ref (a 18)) mun msd mbe) rfl dX12_carryAll_62 ?_
        refine x_iinc C 0 [(3, .int (iN ((c : Int) + 1))), (0, .ref (a 0)), (1, .ref (a 18)), (2, .int (iN (0)))] rfl rfl (by decide) rfl dX12_carryAll_63 ?_
        refine x_goto C 41 (by decide) dX12_carryAll_66 ?_
        refine Wx.eqW (ws' := (WM X.γ a (upz H (c : Int) (h0 (c : Int))) n0 mkd mfg mag mpo mwy dy0 mhw mkk mkf mrs mrm mrw mth maw mgr mwa mre mpl mib msn mpn mlo mtl mke mim mhi (2 + ((c + 1 : Nat) : Int)) 0 (.ref (a 18)) mun msd mbe)) (by rw [show ((2 + (c : Int)) + 1 : Int) = 2 + ((c + 1 : Nat) : Int) by omega]) ?_
        exact ih41 (c + 1) (upz H (c : Int) (h0 (c : Int))) _ (by omega) (by omega) (fun j h1 h2 => upz_up hH rfl j h1 (by omega)) (by omega)
  refine Wx.eqW (ws' := (WM X.γ a mh n0 mkd mfg mag mpo mwy dy0 mhw mkk mkf mrs mrm mrw mth maw mgr mwa mre mpl mib msn mpn mlo mtl mke mim mhi (2 + ((0 : Nat) : Int)) 0 (.ref (a 18)) mun msd mbe)) (by rw [show ((0 + 1) + 1 : Int) = 2 + ((0 : Nat) : Int) by omega]) ?_
  exact LP41 ((15 - (0)) + 1) (0) (mh) _ (by omega) (by omega) (fun j h1 h2 => by omega) (by omega)
set_option maxRecDepth 100000 in
set_option maxHeartbeats 400000 in
theorem c_X12_carryAll_im1 (l : Launch) (γ : GX) (a : Nat → Nat) (mh : Int → Int) (mn : Int) (mkd : Int → Int) (mfg : Int → Int) (mag : Int → Int) (mpo : Int → Int) (mwy : Int → Int) (mdy : Int) (mhw : Int → Int) (mkk : Int → Int) (mkf : Int → Int) (mrs : Int → Int) (mrm : Int → Int) (mrw : Int → Int) (mth : Int) (maw : Int) (mgr : Int → Int) (mwa : Int → Int) (mre : Int) (mpl : Int) (mib : Int) (msn : Int) (mpn : Int → Int) (mlo : Int → Int) (mtl : Int → Int) (mke : Int → Int) (mim : Int → Int) (mhi : Int) (mp0 : Int) (mtk : Int) (mki : Value) (mun : Int → Int) (msd : Int) (mbe : Int → Int) : MV l γ yX12_carryAll wsX12_carryAll rmX12_carryAll [.ref (a 0), .ref (a 19), .int (iN (1))] (WM γ a mh mn mkd mfg mag mpo mwy mdy mhw mkk mkf mrs mrm mrw mth maw mgr mwa mre mpl mib msn mpn mlo mtl mke mim mhi mp0 mtk mki mun msd mbe) (fun w_ => w_ = (WM γ a mh mn mkd mfg mag mpo mwy mdy mhw mkk mkf mrs mrm mrw mth maw mgr mwa mre mpl mib msn mpn mlo mtl mke (pck mh mn mdy mkd mfg mag mpo mwy) mhi 47 1 (.ref (a 19)) mun msd mbe)) 0 0 := by
  refine MV.of (cc := cX12_carryAll) (maxL := 4) RX12 rfl (by decide +kernel) rfl (Nat.le_of_ble_eq_true rfl) ?_
  intro X C hγ hl hnm hret
  subst hγ
  show Wx X 0 0 (WM X.γ a mh mn mkd mfg mag mpo mwy mdy mhw mkk mkf mrs mrm mrw mth maw mgr mwa mre mpl mib msn mpn mlo mtl mke mim mhi mp0 mtk mki mun msd mbe) 0 [(0, .ref (a 0)), (1, .ref (a 19)), (2, .int (iN (1)))] []
  refine x_aload_n C 0 rfl rfl dX12_carryAll_0 ?_
  refine x_aload_n C 1 rfl rfl dX12_carryAll_1 ?_
  refine x_put C in_X12_carryAll_X12 tyX12 tyX12_ok nmX12 0 rfl rfl 30 (by decide) (List.mem_of_getElem? (i := 1) rfl) rfl rfl rfl rfl rfl (Nat.le_of_ble_eq_true rfl) (WM X.γ a mh mn mkd mfg mag mpo mwy mdy mhw mkk mkf mrs mrm mrw mth maw mgr mwa mre mpl mib msn mpn mlo mtl mke mim mhi mp0 mtk (.ref (a 19)) mun msd mbe) rfl dX12_carryAll_2 ?_
  refine x_aload_n C 0 rfl rfl dX12_carryAll_5 ?_
  refine x_iload_n C 2 rfl rfl dX12_carryAll_6 ?_
  refine x_put C in_X12_carryAll_X12 tyX12 tyX12_ok nmX12 0 rfl rfl 29 (by decide) (List.mem_of_getElem? (i := 2) rfl) rfl rfl rfl (nar_z (by decide)) (fits_z (by decide)) (Nat.le_of_ble_eq_true rfl) (WM X.γ a mh mn mkd mfg mag mpo mwy mdy mhw mkk mkf mrs mrm mrw mth maw mgr mwa mre mpl mib msn mpn mlo mtl mke mim mhi mp0 1 (.ref (a 19)) mun msd mbe) rfl dX12_carryAll_7 ?_
  refine x_aload_n C 0 rfl rfl dX12_carryAll_10 ?_
  refine x_iconst (v := 0) C dX12_carryAll_11 ?_
  refine x_put C in_X12_carryAll_X12 tyX12 tyX12_ok nmX12 0 rfl rfl 28 (by decide) (List.mem_of_getElem? (i := 3) rfl) rfl rfl rfl rfl rfl (Nat.le_of_ble_eq_true rfl) (WM X.γ a mh mn mkd mfg mag mpo mwy mdy mhw mkk mkf mrs mrm mrw mth maw mgr mwa mre mpl mib msn mpn mlo mtl mke mim mhi 0 1 (.ref (a 19)) mun msd mbe) rfl dX12_carryAll_12 ?_
  refine x_aload_n C 0 rfl rfl dX12_carryAll_15 ?_
  refine x_aload_n C 0 rfl rfl dX12_carryAll_16 ?_
  refine x_aload_n C 0 rfl rfl dX12_carryAll_17 ?_
  refine x_get C in_X12_carryAll_X12 0 rfl rfl 1 (by decide) (List.mem_of_getElem? (i := 4) rfl) rfl (v := .int (iN (mn))) rfl dX12_carryAll_18 ?_
  refine x_V_I C (As := [.int (iN (mn))]) (rest := [.ref (a 0)]) 1 0 rfl rfl gX12_carryAll_X12_carry rfl (c_X12_carry_im1 _ _ a mh mn mkd mfg mag mpo mwy mdy mhw mkk mkf mrs mrm mrw mth maw mgr mwa mre mpl mib msn mpn mlo mtl mke mim mhi 0 mun msd mbe (mn) (by omega)) rfl ok_X12_carry rfl rfl rfl rfl dX12_carryAll_21 (fun r w1 hp => ?_)
  obtain ⟨hr_, rfl⟩ := hp
  rw [hr_]
  show Wx X 0 0 (WM X.γ a mh mn mkd mfg mag mpo mwy mdy mhw mkk mkf mrs mrm mrw mth maw mgr mwa mre mpl mib msn mpn mlo mtl mke (upz mim 0 mn) mhi (0 + 1) 1 (.ref (a 19)) mun msd mbe) 24 [(0, .ref (a 0)), (1, .ref (a 19)), (2, .int (iN (1)))] [.int (iN (mn)), .ref (a 0)]
  refine x_put C in_X12_carryAll_X12 tyX12 tyX12_ok nmX12 0 rfl rfl 1 (by decide) (List.mem_of_getElem? (i := 4) rfl) rfl rfl rfl rfl rfl (Nat.le_of_ble_eq_true rfl) (WM X.γ a mh mn mkd mfg mag mpo mwy mdy mhw mkk mkf mrs mrm mrw mth maw mgr mwa mre mpl mib msn mpn mlo mtl mke (upz mim 0 mn) mhi (0 + 1) 1 (.ref (a 19)) mun msd mbe) rfl dX12_carryAll_24 ?_
  refine x_aload_n C 0 rfl rfl dX12_carryAll_27 ?_
  refine x_aload_n C 0 rfl rfl dX12_carryAll_28 ?_
  refine x_aload_n C 0 rfl rfl dX12_carryAll_29 ?_
  refine x_get C in_X12_carryAll_X12 0 rfl rfl 7 (by decide) (List.mem_of_getElem? (i := 5) rfl) rfl (v := .int (iN (mdy))) rfl dX12_carryAll_30 ?_
  refine x_V_I C (As := [.int (iN (mdy))]) (rest := [.ref (a 0)]) 1 0 rfl rfl gX12_carryAll_X12_carry rfl (c_X12_carry_im1 _ _ a mh mn mkd mfg mag mpo mwy mdy mhw mkk mkf mrs mrm mrw mth maw mgr mwa mre mpl mib msn mpn mlo mtl mke (upz mim 0 mn) mhi (0 + 1) mun msd mbe (mdy) (by omega)) rfl ok_X12_carry rfl rfl rfl rfl dX12_carryAll_33 (fun r w1 hp => ?_)
  obtain ⟨hr_, rfl⟩ := hp
  rw [hr_]
  show Wx X 0 0 (WM X.γ a mh mn mkd mfg mag mpo mwy mdy mhw mkk mkf mrs mrm mrw mth maw mgr mwa mre mpl mib msn mpn mlo mtl mke (upz (upz mim 0 mn) (0 + 1) mdy) mhi ((0 + 1) + 1) 1 (.ref (a 19)) mun msd mbe) 36 [(0, .ref (a 0)), (1, .ref (a 19)), (2, .int (iN (1)))] [.int (iN (mdy)), .ref (a 0)]
  refine x_put C in_X12_carryAll_X12 tyX12 tyX12_ok nmX12 0 rfl rfl 7 (by decide) (List.mem_of_getElem? (i := 5) rfl) rfl rfl rfl rfl rfl (Nat.le_of_ble_eq_true rfl) (WM X.γ a mh mn mkd mfg mag mpo mwy mdy mhw mkk mkf mrs mrm mrw mth maw mgr mwa mre mpl mib msn mpn mlo mtl mke (upz (upz mim 0 mn) (0 + 1) mdy) mhi ((0 + 1) + 1) 1 (.ref (a 19)) mun msd mbe) rfl dX12_carryAll_36 ?_
  refine x_iconst (v := 0) C dX12_carryAll_39 ?_
  refine x_istore_n C [(3, .int (iN (0))), (0, .ref (a 0)), (1, .ref (a 19)), (2, .int (iN (1)))] rfl (by decide) rfl dX12_carryAll_40 ?_
  have LP41 : ∀ (f : Nat) (c : Nat) (K : Int → Int) (v3_41 : Int), (15 - c < f) → (c ≤ 15) → (∀ j : Int, 0 ≤ j → j < 2 + (c : Int) → K j = pck mh mn mdy mkd mfg mag mpo mwy j) → (((c : Int)) = v3_41) → Wx X 0 0 (WM X.γ a mh mn mkd mfg mag mpo mwy mdy mhw mkk mkf mrs mrm mrw mth maw mgr mwa mre mpl mib msn mpn mlo mtl mke K mhi (2 + (c : Int)) 1 (.ref (a 19)) mun msd mbe) 41 [(3, .int (iN (v3_41))), (0, .ref (a 0)), (1, .ref (a 19)), (2, .int (iN (1)))] [] := by
    intro f
    induction f with
    | zero => intro c K v3_41 hf; exact absurd hf (Nat.not_lt_zero _)
    | succ f ih41 =>
      intro c K v3_41 hf hc hK e3_41
      subst e3_41
      refine x_iload_n C 0 rfl rfl dX12_carryAll_41 ?_
      refine x_bipush C (15) (by decide) dX12_carryAll_42 ?_
      refine x_icmp_ge C 69 (by decide) (by omega) dX12_carryAll_44 (fun c_44 => ?_) (fun c_44 => ?_)
      · refine x_iconst (v := 0) C dX12_carryAll_69 ?_
        refine x_istore_n C [(3, .int (iN (0))), (0, .ref (a 0)), (1, .ref (a 19)), (2, .int (iN (1)))] rfl (by decide) rfl dX12_carryAll_70 ?_
        have LP71 : ∀ (f : Nat) (u : Nat) (K2 : Int → Int) (v3_71 : Int), (6 - u < f) → (u ≤ 6) → (∀ j : Int, 0 ≤ j → j < 17 + 5 * (u : Int) → K2 j = pck mh mn mdy mkd mfg mag mpo mwy j) → (((u : Int)) = v3_71) → Wx X 0 0 (WM X.γ a mh mn mkd mfg mag mpo mwy mdy mhw mkk mkf mrs mrm mrw mth maw mgr mwa mre mpl mib msn mpn mlo mtl mke K2 mhi (17 + 5 * (u : Int)) 1 (.ref (a 19)) mun msd mbe) 71 [(3, .int (iN (v3_71))), (0, .ref (a 0)), (1, .ref (a 19)), (2, .int (iN (1)))] [] := by
          intro f
          induction f with
          | zero => intro u K2 v3_71 hf; exact absurd hf (Nat.not_lt_zero _)
          | succ f ih71 =>
            intro u K2 v3_71 hf hu hK2 e3_71
            subst e3_71
            refine x_iload_n C 0 rfl rfl dX12_carryAll_71 ?_
            refine x_bipush C (6) (by decide) dX12_carryAll_72 ?_
            refine x_icmp_ge C 163 (by decide) (by omega) dX12_carryAll_74 (fun c_74 => ?_) (fun c_74 => ?_)
            · refine Wx.eqW (ws' := (WM X.γ a mh mn mkd mfg mag mpo mwy mdy mhw mkk mkf mrs mrm mrw mth maw mgr mwa mre mpl mib msn mpn mlo mtl mke K2 mhi 47 1 (.ref (a 19)) mun msd mbe)) (by rw [show (17 + 5 * (u : Int) : Int) = 47 by omega]) ?_
              refine x_canonI (f := K2) (g := pck mh mn mdy mkd mfg mag mpo mwy) 19 rfl (fun j h1 h2 => hK2 j h1 (by omega)) (WM X.γ a mh mn mkd mfg mag mpo mwy mdy mhw mkk mkf mrs mrm mrw mth maw mgr mwa mre mpl mib msn mpn mlo mtl mke (pck mh mn mdy mkd mfg mag mpo mwy) mhi 47 1 (.ref (a 19)) mun msd mbe) rfl ?_
              exact hret _ _ _ dX12_carryAll_163 rfl
            · refine x_aload_n C 1 rfl rfl dX12_carryAll_77 ?_
              refine x_get C in_X12_carryAll_X12 0 rfl rfl 2 (by decide) (List.mem_of_getElem? (i := 7) rfl) rfl (v := .ref (a 2)) rfl dX12_carryAll_78 ?_
              refine x_iload_n C 0 rfl rfl dX12_carryAll_81 ?_
              refine x_aload_n C 1 rfl rfl dX12_carryAll_82 ?_
              refine x_aload_n C 1 rfl rfl dX12_carryAll_83 ?_
              refine x_get C in_X12_carryAll_X12 0 rfl rfl 2 (by decide) (List.mem_of_getElem? (i := 7) rfl) rfl (v := .ref (a 2)) rfl dX12_carryAll_84 ?_
              refine x_iload_n C 0 rfl rfl dX12_carryAll_87 ?_
              refine x_iaload C (f := mkd) 2 rfl (by omega) rfl dX12_carryAll_88 ?_
              refine x_V_I C (As := [.int (iN (mkd (u : Int)))]) (rest := [.int (iN ((u : Int))), .ref (a 2)]) 1 0 rfl rfl gX12_carryAll_X12_carry rfl (c_X12_carry_im1 _ _ a mh mn mkd mfg mag mpo mwy mdy mhw mkk mkf mrs mrm mrw mth maw mgr mwa mre mpl mib msn mpn mlo mtl mke K2 mhi (17 + 5 * (u : Int)) mun msd mbe (mkd (u : Int)) (by omega)) rfl ok_X12_carry rfl rfl rfl rfl dX12_carryAll_89 (fun r w1 hp => ?_)
              obtain ⟨rfl, rfl⟩ := hp
              show Wx X 0 0 (WM X.γ a mh mn mkd mfg mag mpo mwy mdy mhw mkk mkf mrs mrm mrw mth maw mgr mwa mre mpl mib msn mpn mlo mtl mke (upz K2 (17 + 5 * (u : Int)) (mkd (u : Int))) mhi ((17 + 5 * (u : Int)) + 1) 1 (.ref (a 19)) mun msd mbe) 92 [(3, .int (iN ((u : Int)))), (0, .ref (a 0)), (1, .ref (a 19)), (2, .int (iN (1)))] [.int (iN (mkd (u : Int))), .int (iN ((u : Int))), .ref (a 2)]
              refine x_iastore C (f := mkd) 2 rfl (by omega) rfl (WM X.γ a mh mn (upz mkd (u : Int) (mkd (u : Int))) mfg mag mpo mwy mdy mhw mkk mkf mrs mrm mrw mth maw mgr mwa mre mpl mib msn mpn mlo mtl mke (upz K2 (17 + 5 * (u : Int)) (mkd (u : Int))) mhi ((17 + 5 * (u : Int)) + 1) 1 (.ref (a 19)) mun msd mbe) rfl dX12_carryAll_92 ?_
              refine x_canonI (f := upz mkd (u : Int) (mkd (u : Int))) (g := mkd) 2 rfl (fun j h1 h2 => by rw [upz_id]) (WM X.γ a mh mn mkd mfg mag mpo mwy mdy mhw mkk mkf mrs mrm mrw mth maw mgr mwa mre mpl mib msn mpn mlo mtl mke (upz K2 (17 + 5 * (u : Int)) (mkd (u : Int))) mhi ((17 + 5 * (u : Int)) + 1) 1 (.ref (a 19)) mun msd mbe) rfl ?_
              refine x_aload_n C 1 rfl rfl dX12_carryAll_93 ?_
              refine x_get C in_X12_carryAll_X12 0 rfl rfl 3 (by decide) (List.mem_of_getElem? (i := 8) rfl) rfl (v := .ref (a 3)) rfl dX12_carryAll_94 ?_
              refine x_iload_n C 0 rfl rfl dX12_carryAll_97 ?_
              refine x_aload_n C 1 rfl rfl dX12_carryAll_98 ?_
              refine x_aload_n C 1 rfl rfl dX12_carryAll_99 ?_
              refine x_get C in_X12_carryAll_X12 0 rfl rfl 3 (by decide) (List.mem_of_getElem? (i := 8) rfl) rfl (v := .ref (a 3)) rfl dX12_carryAll_100 ?_
              refine x_iload_n C 0 rfl rfl dX12_carryAll_103 ?_
              refine x_iaload C (f := mfg) 3 rfl (by omega) rfl dX12_carryAll_104 ?_
              refine x_V_I C (As := [.int (iN (mfg (u : Int)))]) (rest := [.int (iN ((u : Int))), .ref (a 3)]) 1 0 rfl rfl gX12_carryAll_X12_carry rfl (c_X12_carry_im1 _ _ a mh mn mkd mfg mag mpo mwy mdy mhw mkk mkf mrs mrm mrw mth maw mgr mwa mre mpl mib msn mpn mlo mtl mke (upz K2 (17 + 5 * (u : Int)) (mkd (u : Int))) mhi ((17 + 5 * (u : Int)) + 1) mun msd mbe (mfg (u : Int)) (by omega)) rfl ok_X12_carry rfl rfl rfl rfl dX12_carryAll_105 (fun r w1 hp => ?_)
              obtain ⟨rfl, rfl⟩ := hp
              show Wx X 0 0 (WM X.γ a mh mn mkd mfg mag mpo mwy mdy mhw mkk mkf mrs mrm mrw mth maw mgr mwa mre mpl mib msn mpn mlo mtl mke (upz (upz K2 (17 + 5 * (u : Int)) (mkd (u : Int))) ((17 + 5 * (u : Int)) + 1) (mfg (u : Int))) mhi (((17 + 5 * (u : Int)) + 1) + 1) 1 (.ref (a 19)) mun msd mbe) 108 [(3, .int (iN ((u : Int)))), (0, .ref (a 0)), (1, .ref (a 19)), (2, .int (iN (1)))] [.int (iN (mfg (u : Int))), .int (iN ((u : Int))), .ref (a 3)]
              refine x_iastore C (f := mfg) 3 rfl (by omega) rfl (WM X.γ a mh mn mkd (upz mfg (u : Int) (mfg (u : Int))) mag mpo mwy mdy mhw mkk mkf mrs mrm mrw mth maw mgr mwa mre mpl mib msn mpn mlo mtl mke (upz (upz K2 (17 + 5 * (u : Int)) (mkd (u : Int))) ((17 + 5 * (u : Int)) + 1) (mfg (u : Int))) mhi (((17 + 5 * (u : Int)) + 1) + 1) 1 (.ref (a 19)) mun msd mbe) rfl dX12_carryAll_108 ?_
              refine x_canonI (f := upz mfg (u : Int) (mfg (u : Int))) (g := mfg) 3 rfl (fun j h1 h2 => by rw [upz_id]) (WM X.γ a mh mn mkd mfg mag mpo mwy mdy mhw mkk mkf mrs mrm mrw mth maw mgr mwa mre mpl mib msn mpn mlo mtl mke (upz (upz K2 (17 + 5 * (u : Int)) (mkd (u : Int))) ((17 + 5 * (u : Int)) + 1) (mfg (u : Int))) mhi (((17 + 5 * (u : Int)) + 1) + 1) 1 (.ref (a 19)) mun msd mbe) rfl ?_
              refine x_aload_n C 1 rfl rfl dX12_carryAll_109 ?_
              refine x_get C in_X12_carryAll_X12 0 rfl rfl 4 (by decide) (List.mem_of_getElem? (i := 9) rfl) rfl (v := .ref (a 4)) rfl dX12_carryAll_110 ?_
              refine x_iload_n C 0 rfl rfl dX12_carryAll_113 ?_
              refine x_aload_n C 1 rfl rfl dX12_carryAll_114 ?_
              refine x_aload_n C 1 rfl rfl dX12_carryAll_115 ?_
              refine x_get C in_X12_carryAll_X12 0 rfl rfl 4 (by decide) (List.mem_of_getElem? (i := 9) rfl) rfl (v := .ref (a 4)) rfl dX12_carryAll_116 ?_
              refine x_iload_n C 0 rfl rfl dX12_carryAll_119 ?_
              refine x_iaload C (f := mag) 4 rfl (by omega) rfl dX12_carryAll_120 ?_
              refine x_V_I C (As := [.int (iN (mag (u : Int)))]) (rest := [.int (iN ((u : Int))), .ref (a 4)]) 1 0 rfl rfl gX12_carryAll_X12_carry rfl (c_X12_carry_im1 _ _ a mh mn mkd mfg mag mpo mwy mdy mhw mkk mkf mrs mrm mrw mth maw mgr mwa mre mpl mib msn mpn mlo mtl mke (upz (upz K2 (17 + 5 * (u : Int)) (mkd (u : Int))) ((17 + 5 * (u : Int)) + 1) (mfg (u : Int))) mhi (((17 + 5 * (u : Int)) + 1) + 1) mun msd mbe (mag (u : Int)) (by omega)) rfl ok_X12_carry rfl rfl rfl rfl dX12_carryAll_121 (fun r w1 hp => ?_)
              obtain ⟨rfl, rfl⟩ := hp
              show Wx X 0 0 (WM X.γ a mh mn mkd mfg mag mpo mwy mdy mhw mkk mkf mrs mrm mrw mth maw mgr mwa mre mpl mib msn mpn mlo mtl mke (upz (upz (upz K2 (17 + 5 * (u : Int)) (mkd (u : Int))) ((17 + 5 * (u : Int)) + 1) (mfg (u : Int))) (((17 + 5 * (u : Int)) + 1) + 1) (mag (u : Int))) mhi ((((17 + 5 * (u : Int)) + 1) + 1) + 1) 1 (.ref (a 19)) mun msd mbe) 124 [(3, .int (iN ((u : Int)))), (0, .ref (a 0)), (1, .ref (a 19)), (2, .int (iN (1)))] [.int (iN (mag (u : Int))), .int (iN ((u : Int))), .ref (a 4)]
              refine x_iastore C (f := mag) 4 rfl (by omega) rfl (WM X.γ a mh mn mkd mfg (upz mag (u : Int) (mag (u : Int))) mpo mwy mdy mhw mkk mkf mrs mrm mrw mth maw mgr mwa mre mpl mib msn mpn mlo mtl mke (upz (upz (upz K2 (17 + 5 * (u : Int)) (mkd (u : Int))) ((17 + 5 * (u : Int)) + 1) (mfg (u : Int))) (((17 + 5 * (u : Int)) + 1) + 1) (mag (u : Int))) mhi ((((17 + 5 * (u : Int)) + 1) + 1) + 1) 1 (.ref (a 19)) mun msd mbe) rfl dX12_carryAll_124 ?_
              refine x_canonI (f := upz mag (u : Int) (mag (u : Int))) (g := mag) 4 rfl (fun j h1 h2 => by rw [upz_id]) (WM X.γ a mh mn mkd mfg mag mpo mwy mdy mhw mkk mkf mrs mrm mrw mth maw mgr mwa mre mpl mib msn mpn mlo mtl mke (upz (upz (upz K2 (17 + 5 * (u : Int)) (mkd (u : Int))) ((17 + 5 * (u : Int)) + 1) (mfg (u : Int))) (((17 + 5 * (u : Int)) + 1) + 1) (mag (u : Int))) mhi ((((17 + 5 * (u : Int)) + 1) + 1) + 1) 1 (.ref (a 19)) mun msd mbe) rfl ?_
              refine x_aload_n C 1 rfl rfl dX12_carryAll_125 ?_
              refine x_get C in_X12_carryAll_X12 0 rfl rfl 5 (by decide) (List.mem_of_getElem? (i := 10) rfl) rfl (v := .ref (a 5)) rfl dX12_carryAll_126 ?_
              refine x_iload_n C 0 rfl rfl dX12_carryAll_129 ?_
              refine x_aload_n C 1 rfl rfl dX12_carryAll_130 ?_
              refine x_aload_n C 1 rfl rfl dX12_carryAll_131 ?_
              refine x_get C in_X12_carryAll_X12 0 rfl rfl 5 (by decide) (List.mem_of_getElem? (i := 10) rfl) rfl (v := .ref (a 5)) rfl dX12_carryAll_132 ?_
              refine x_iload_n C 0 rfl rfl dX12_carryAll_135 ?_
              refine x_iaload C (f := mpo) 5 rfl (by omega) rfl dX12_carryAll_136 ?_
              refine x_V_I C (As := [.int (iN (mpo (u : Int)))]) (rest := [.int (iN ((u : Int))), .ref (a 5)]) 1 0 rfl rfl gX12_carryAll_X12_carry rfl (c_X12_carry_im1 _ _ a mh mn mkd mfg mag mpo mwy mdy mhw mkk mkf mrs mrm mrw mth maw mgr mwa mre mpl mib msn mpn mlo mtl mke (upz (upz (upz K2 (17 + 5 * (u : Int)) (mkd (u : Int))) ((17 + 5 * (u : Int)) + 1) (mfg (u : Int))) (((17 + 5 * (u : Int)) + 1) + 1) (mag (u : Int))) mhi ((((17 + 5 * (u : Int)) + 1) + 1) + 1) mun msd mbe (mpo (u : Int)) (by omega)) rfl ok_X12_carry rfl rfl rfl rfl dX12_carryAll_137 (fun r w1 hp => ?_)
              obtain ⟨rfl, rfl⟩ := hp
              show Wx X 0 0 (WM X.γ a mh mn mkd mfg mag mpo mwy mdy mhw mkk mkf mrs mrm mrw mth maw mgr mwa mre mpl mib msn mpn mlo mtl mke (upz (upz (upz (upz K2 (17 + 5 * (u : Int)) (mkd (u : Int))) ((17 + 5 * (u : Int)) + 1) (mfg (u : Int))) (((17 + 5 * (u : Int)) + 1) + 1) (mag (u : Int))) ((((17 + 5 * (u : Int)) + 1) + 1) + 1) (mpo (u : Int))) mhi (((((17 + 5 * (u : Int)) + 1) + 1) + 1) + 1) 1 (.ref (a 19)) mun msd mbe) 140 [(3, .int (iN ((u : Int)))), (0, .ref (a 0)), (1, .ref (a 19)), (2, .int (iN (1)))] [.int (iN (mpo (u : Int))), .int (iN ((u : Int))), .ref (a 5)]
              refine x_iastore C (f := mpo) 5 rfl (by omega) rfl (WM X.γ a mh mn mkd mfg mag (upz mpo (u : Int) (mpo (u : Int))) mwy mdy mhw mkk mkf mrs mrm mrw mth maw mgr mwa mre mpl mib msn mpn mlo mtl mke (upz (upz (upz (upz K2 (17 + 5 * (u : Int)) (mkd (u : Int))) ((17 + 5 * (u : Int)) + 1) (mfg (u : Int))) (((17 + 5 * (u : Int)) + 1) + 1) (mag (u : Int))) ((((17 + 5 * (u : Int)) + 1) + 1) + 1) (mpo (u : Int))) mhi (((((17 + 5 * (u : Int)) + 1) + 1) + 1) + 1) 1 (.ref (a 19)) mun msd mbe) rfl dX12_carryAll_140 ?_
              refine x_canonI (f := upz mpo (u : Int) (mpo (u : Int))) (g := mpo) 5 rfl (fun j h1 h2 => by rw [upz_id]) (WM X.γ a mh mn mkd mfg mag mpo mwy mdy mhw mkk mkf mrs mrm mrw mth maw mgr mwa mre mpl mib msn mpn mlo mtl mke (upz (upz (upz (upz K2 (17 + 5 * (u : Int)) (mkd (u : Int))) ((17 + 5 * (u : Int)) + 1) (mfg (u : Int))) (((17 + 5 * (u : Int)) + 1) + 1) (mag (u : Int))) ((((17 + 5 * (u : Int)) + 1) + 1) + 1) (mpo (u : Int))) mhi (((((17 + 5 * (u : Int)) + 1) + 1) + 1) + 1) 1 (.ref (a 19)) mun msd mbe) rfl ?_
              refine x_aload_n C 1 rfl rfl dX12_carryAll_141 ?_
              refine x_get C in_X12_carryAll_X12 0 rfl rfl 6 (by decide) (List.mem_of_getElem? (i := 11) rfl) rfl (v := .ref (a 6)) rfl dX12_carryAll_142 ?_
              refine x_iload_n C 0 rfl rfl dX12_carryAll_145 ?_
              refine x_aload_n C 1 rfl rfl dX12_carryAll_146 ?_
              refine x_aload_n C 1 rfl rfl dX12_carryAll_147 ?_
              refine x_get C in_X12_carryAll_X12 0 rfl rfl 6 (by decide) (List.mem_of_getElem? (i := 11) rfl) rfl (v := .ref (a 6)) rfl dX12_carryAll_148 ?_
              refine x_iload_n C 0 rfl rfl dX12_carryAll_151 ?_
              refine x_iaload C (f := mwy) 6 rfl (by omega) rfl dX12_carryAll_152 ?_
              refine x_V_I C (As := [.int (iN (mwy (u : Int)))]) (rest := [.int (iN ((u : Int))), .ref (a 6)]) 1 0 rfl rfl gX12_carryAll_X12_carry rfl (c_X12_carry_im1 _ _ a mh mn mkd mfg mag mpo mwy mdy mhw mkk mkf mrs mrm mrw mth maw mgr mwa mre mpl mib msn mpn mlo mtl mke (upz (upz (upz (upz K2 (17 + 5 * (u : Int)) (mkd (u : Int))) ((17 + 5 * (u : Int)) + 1) (mfg (u : Int))) (((17 + 5 * (u : Int)) + 1) + 1) (mag (u : Int))) ((((17 + 5 * (u : Int)) + 1) + 1) + 1) (mpo (u : Int))) mhi (((((17 + 5 * (u : Int)) + 1) + 1) + 1) + 1) mun msd mbe (mwy (u : Int)) (by omega)) rfl ok_X12_carry rfl rfl rfl rfl dX12_carryAll_153 (fun r w1 hp => ?_)
              obtain ⟨rfl, rfl⟩ := hp
              show Wx X 0 0 (WM X.γ a mh mn mkd mfg mag mpo mwy mdy mhw mkk mkf mrs mrm mrw mth maw mgr mwa mre mpl mib msn mpn mlo mtl mke (upz (upz (upz (upz (upz K2 (17 + 5 * (u : Int)) (mkd (u : Int))) ((17 + 5 * (u : Int)) + 1) (mfg (u : Int))) (((17 + 5 * (u : Int)) + 1) + 1) (mag (u : Int))) ((((17 + 5 * (u : Int)) + 1) + 1) + 1) (mpo (u : Int))) (((((17 + 5 * (u : Int)) + 1) + 1) + 1) + 1) (mwy (u : Int))) mhi ((((((17 + 5 * (u : Int)) + 1) + 1) + 1) + 1) + 1) 1 (.ref (a 19)) mun msd mbe) 156 [(3, .int (iN ((u : Int)))), (0, .ref (a 0)), (1, .ref (a 19)), (2, .int (iN (1)))] [.int (iN (mwy (u : Int))), .int (iN ((u : Int))), .ref (a 6)]
              refine x_iastore C (f := mwy) 6 rfl (by omega) rfl (WM X.γ a mh mn mkd mfg mag mpo (upz mwy (u : Int) (mwy (u : Int))) mdy mhw mkk mkf mrs mrm mrw mth maw mgr mwa mre mpl mib msn mpn mlo mtl mke (upz (upz (upz (upz (upz K2 (17 + 5 * (u : Int)) (mkd (u : Int))) ((17 + 5 * (u : Int)) + 1) (mfg (u : Int))) (((17 + 5 * (u : Int)) + 1) + 1) (mag (u : Int))) ((((17 + 5 * (u : Int)) + 1) + 1) + 1) (mpo (u : Int))) (((((17 + 5 * (u : Int)) + 1) + 1) + 1) + 1) (mwy (u : Int))) mhi ((((((17 + 5 * (u : Int)) + 1) + 1) + 1) + 1) + 1) 1 (.ref (a 19)) mun msd mbe) rfl dX12_carryAll_156 ?_
              refine x_canonI (f := upz mwy (u : Int) (mwy (u : Int))) (g := mwy) 6 rfl (fun j h1 h2 => by rw [upz_id]) (WM X.γ a mh mn mkd mfg mag mpo mwy mdy mhw mkk mkf mrs mrm mrw mth maw mgr mwa mre mpl mib msn mpn mlo mtl mke (upz (upz (upz (upz (upz K2 (17 + 5 * (u : Int)) (mkd (u : Int))) ((17 + 5 * (u : Int)) + 1) (mfg (u : Int))) (((17 + 5 * (u : Int)) + 1) + 1) (mag (u : Int))) ((((17 + 5 * (u : Int)) + 1) + 1) + 1) (mpo (u : Int))) (((((17 + 5 * (u : Int)) + 1) + 1) + 1) + 1) (mwy (u : Int))) mhi ((((((17 + 5 * (u : Int)) + 1) + 1) + 1) + 1) + 1) 1 (.ref (a 19)) mun msd mbe) rfl ?_
              refine x_iinc C 0 [(3, .int (iN ((u : Int) + 1))), (0, .ref (a 0)), (1, .ref (a 19)), (2, .int (iN (1)))] rfl rfl (by decide) rfl dX12_carryAll_157 ?_
              refine x_goto C 71 (by decide) dX12_carryAll_160 ?_
              refine Wx.eqW (ws' := (WM X.γ a mh mn mkd mfg mag mpo mwy mdy mhw mkk mkf mrs mrm mrw mth maw mgr mwa mre mpl mib msn mpn mlo mtl mke (upz (upz (upz (upz (upz K2 (17 + 5 * (u : Int)) (mkd (u : Int))) ((17 + 5 * (u : Int)) + 1) (mfg (u : Int))) (((17 + 5 * (u : Int)) + 1) + 1) (mag (u : Int))) ((((17 + 5 * (u : Int)) + 1) + 1) + 1) (mpo (u : Int))) (((((17 + 5 * (u : Int)) + 1) + 1) + 1) + 1) (mwy (u : Int))) mhi (17 + 5 * ((u + 1 : Nat) : Int)) 1 (.ref (a 19)) mun msd mbe)) (by rw [show ((((((17 + 5 * (u : Int)) + 1) + 1) + 1) + 1) + 1 : Int) = 17 + 5 * ((u + 1 : Nat) : Int) by omega]) ?_
              exact ih71 (u + 1) (upz (upz (upz (upz (upz K2 (17 + 5 * (u : Int)) (mkd (u : Int))) ((17 + 5 * (u : Int)) + 1) (mfg (u : Int))) (((17 + 5 * (u : Int)) + 1) + 1) (mag (u : Int))) ((((17 + 5 * (u : Int)) + 1) + 1) + 1) (mpo (u : Int))) (((((17 + 5 * (u : Int)) + 1) + 1) + 1) + 1) (mwy (u : Int))) _ (by omega) (by omega) (fun j h1 h2 => upz_up (m := 17 + 5 * (u : Int) + 1 + 1 + 1 + 1) (upz_up (m := 17 + 5 * (u : Int) + 1 + 1 + 1) (upz_up (m := 17 + 5 * (u : Int) + 1 + 1) (upz_up (m := 17 + 5 * (u : Int) + 1) (upz_up (m := 17 + 5 * (u : Int)) (F := pck mh mn mdy mkd mfg mag mpo mwy) hK2 (by unfold pck; rw [if_neg (by omega), if_neg (by omega), if_neg (by omega), if_pos (by omega)]; congr 1; omega)) (by unfold pck; rw [if_neg (by omega), if_neg (by omega), if_neg (by omega), if_neg (by omega), if_pos (by omega)]; congr 1; omega)) (by unfold pck; rw [if_neg (by omega), if_neg (by omega), if_neg (by omega), if_neg (by omega), if_neg (by omega), if_pos (by omega)]; congr 1; omega)) (by unfold pck; rw [if_neg (by omega), if_neg (by omega), if_neg (by omega), if_neg (by omega), if_neg (by omega), if_neg (by omega), if_pos (by omega)]; congr 1; omega)) (by unfold pck; rw [if_neg (by omega), if_neg (by omega), if_neg (by omega), if_neg (by omega), if_neg (by omega), if_neg (by omega), if_neg (by omega)]; congr 1; omega) j h1 (by omega)) (by omega)
        refine Wx.eqW (ws' := (WM X.γ a mh mn mkd mfg mag mpo mwy mdy mhw mkk mkf mrs mrm mrw mth maw mgr mwa mre mpl mib msn mpn mlo mtl mke K mhi (17 + 5 * ((0 : Nat) : Int)) 1 (.ref (a 19)) mun msd mbe)) (by rw [show (2 + (c : Int) : Int) = 17 + 5 * ((0 : Nat) : Int) by omega]) ?_
        exact LP71 ((6 - (0)) + 1) (0) (K) _ (by omega) (by omega) (fun j h1 h2 => hK j h1 (by omega)) (by omega)
      · refine x_aload_n C 1 rfl rfl dX12_carryAll_47 ?_
        refine x_get C in_X12_carryAll_X12 0 rfl rfl 0 (by decide) (List.mem_of_getElem? (i := 6) rfl) rfl (v := .ref (a 1)) rfl dX12_carryAll_48 ?_
        refine x_iload_n C 0 rfl rfl dX12_carryAll_51 ?_
        refine x_aload_n C 1 rfl rfl dX12_carryAll_52 ?_
        refine x_aload_n C 1 rfl rfl dX12_carryAll_53 ?_
        refine x_get C in_X12_carryAll_X12 0 rfl rfl 0 (by decide) (List.mem_of_getElem? (i := 6) rfl) rfl (v := .ref (a 1)) rfl dX12_carryAll_54 ?_
        refine x_iload_n C 0 rfl rfl dX12_carryAll_57 ?_
        refine x_iaload C (f := mh) 1 rfl (by omega) rfl dX12_carryAll_58 ?_
        refine x_V_I C (As := [.int (iN (mh (c : Int)))]) (rest := [.int (iN ((c : Int))), .ref (a 1)]) 1 0 rfl rfl gX12_carryAll_X12_carry rfl (c_X12_carry_im1 _ _ a mh mn mkd mfg mag mpo mwy mdy mhw mkk mkf mrs mrm mrw mth maw mgr mwa mre mpl mib msn mpn mlo mtl mke K mhi (2 + (c : Int)) mun msd mbe (mh (c : Int)) (by omega)) rfl ok_X12_carry rfl rfl rfl rfl dX12_carryAll_59 (fun r w1 hp => ?_)
        obtain ⟨rfl, rfl⟩ := hp
        show Wx X 0 0 (WM X.γ a mh mn mkd mfg mag mpo mwy mdy mhw mkk mkf mrs mrm mrw mth maw mgr mwa mre mpl mib msn mpn mlo mtl mke (upz K (2 + (c : Int)) (mh (c : Int))) mhi ((2 + (c : Int)) + 1) 1 (.ref (a 19)) mun msd mbe) 62 [(3, .int (iN ((c : Int)))), (0, .ref (a 0)), (1, .ref (a 19)), (2, .int (iN (1)))] [.int (iN (mh (c : Int))), .int (iN ((c : Int))), .ref (a 1)]
        refine x_iastore C (f := mh) 1 rfl (by omega) rfl (WM X.γ a (upz mh (c : Int) (mh (c : Int))) mn mkd mfg mag mpo mwy mdy mhw mkk mkf mrs mrm mrw mth maw mgr mwa mre mpl mib msn mpn mlo mtl mke (upz K (2 + (c : Int)) (mh (c : Int))) mhi ((2 + (c : Int)) + 1) 1 (.ref (a 19)) mun msd mbe) rfl dX12_carryAll_62 ?_
        refine x_canonI (f := upz mh (c : Int) (mh (c : Int))) (g := mh) 1 rfl (fun j h1 h2 => by rw [upz_id]) (WM X.γ a mh mn mkd mfg mag mpo mwy mdy mhw mkk mkf mrs mrm mrw mth maw mgr mwa mre mpl mib msn mpn mlo mtl mke (upz K (2 + (c : Int)) (mh (c : Int))) mhi ((2 + (c : Int)) + 1) 1 (.ref (a 19)) mun msd mbe) rfl ?_
        refine x_iinc C 0 [(3, .int (iN ((c : Int) + 1))), (0, .ref (a 0)), (1, .ref (a 19)), (2, .int (iN (1)))] rfl rfl (by decide) rfl dX12_carryAll_63 ?_
        refine x_goto C 41 (by decide) dX12_carryAll_66 ?_
        refine Wx.eqW (ws' := (WM X.γ a mh mn mkd mfg mag mpo mwy mdy mhw mkk mkf mrs mrm mrw mth maw mgr mwa mre mpl mib msn mpn mlo mtl mke (upz K (2 + (c : Int)) (mh (c : Int))) mhi (2 + ((c + 1 : Nat) : Int)) 1 (.ref (a 19)) mun msd mbe)) (by rw [show ((2 + (c : Int)) + 1 : Int) = 2 + ((c + 1 : Nat) : Int) by omega]) ?_
        exact ih41 (c + 1) (upz K (2 + (c : Int)) (mh (c : Int))) _ (by omega) (by omega) (fun j h1 h2 => upz_up (m := 2 + (c : Int)) (F := pck mh mn mdy mkd mfg mag mpo mwy) hK (by unfold pck; rw [if_neg (by omega), if_neg (by omega), if_pos (by omega)]; congr 1; omega) j h1 (by omega)) (by omega)
  refine Wx.eqW (ws' := (WM X.γ a mh mn mkd mfg mag mpo mwy mdy mhw mkk mkf mrs mrm mrw mth maw mgr mwa mre mpl mib msn mpn mlo mtl mke (upz (upz mim 0 mn) (0 + 1) mdy) mhi (2 + ((0 : Nat) : Int)) 1 (.ref (a 19)) mun msd mbe)) (by rw [show ((0 + 1) + 1 : Int) = 2 + ((0 : Nat) : Int) by omega]) ?_
  exact LP41 ((15 - (0)) + 1) (0) (upz (upz mim 0 mn) (0 + 1) mdy) _ (by omega) (by omega) (fun j h1 h2 => upz_up (m := 1) (upz_up (m := 0) (F := pck mh mn mdy mkd mfg mag mpo mwy) (fun j h1 h2 => by omega) rfl) rfl j h1 (by omega)) (by omega)
set_option maxRecDepth 100000 in
set_option maxHeartbeats 400000 in
theorem c_X12_carryAll_im0 (l : Launch) (γ : GX) (a : Nat → Nat) (mh : Int → Int) (mn : Int) (mkd : Int → Int) (mfg : Int → Int) (mag : Int → Int) (mpo : Int → Int) (mwy : Int → Int) (mdy : Int) (mhw : Int → Int) (mkk : Int → Int) (mkf : Int → Int) (mrs : Int → Int) (mrm : Int → Int) (mrw : Int → Int) (mth : Int) (maw : Int) (mgr : Int → Int) (mwa : Int → Int) (mre : Int) (mpl : Int) (mib : Int) (msn : Int) (mpn : Int → Int) (mlo : Int → Int) (mtl : Int → Int) (mke : Int → Int) (mim : Int → Int) (mhi : Int) (mp0 : Int) (mtk : Int) (mki : Value) (mun : Int → Int) (msd : Int) (mbe : Int → Int) (h0 : Int → Int) (n0 dy0 : Int) (kd0 fg0 ag0 po0 wy0 : Int → Int) (hq : ∀ j : Int, 0 ≤ j → j < 47 → mim j = pck h0 n0 dy0 kd0 fg0 ag0 po0 wy0 j) : MV l γ yX12_carryAll wsX12_carryAll rmX12_carryAll [.ref (a 0), .ref (a 19), .int (iN (0))] (WM γ a mh mn mkd mfg mag mpo mwy mdy mhw mkk mkf mrs mrm mrw mth maw mgr mwa mre mpl mib msn mpn mlo mtl mke mim mhi mp0 mtk mki mun msd mbe) (fun w_ => w_ = (WM γ a h0 n0 kd0 fg0 ag0 po0 wy0 dy0 mhw mkk mkf mrs mrm mrw mth maw mgr mwa mre mpl mib msn mpn mlo mtl mke mim mhi 47 0 (.ref (a 19)) mun msd mbe)) 0 0 := by
  refine MV.of (cc := cX12_carryAll) (maxL := 4) RX12 rfl (by decide +kernel) rfl (Nat.le_of_ble_eq_true rfl) ?_
  intro X C hγ hl hnm hret
  subst hγ
  show Wx X 0 0 (WM X.γ a mh mn mkd mfg mag mpo mwy mdy mhw mkk mkf mrs mrm mrw mth maw mgr mwa mre mpl mib msn mpn mlo mtl mke mim mhi mp0 mtk mki mun msd mbe) 0 [(0, .ref (a 0)), (1, .ref (a 19)), (2, .int (iN (0)))] []
  refine x_aload_n C 0 rfl rfl dX12_carryAll_0 ?_
  refine x_aload_n C 1 rfl rfl dX12_carryAll_1 ?_
  refine x_put C in_X12_carryAll_X12 tyX12 tyX12_ok nmX12 0 rfl rfl 30 (by decide) (List.mem_of_getElem? (i := 1) rfl) rfl rfl rfl rfl rfl (Nat.le_of_ble_eq_true rfl) (WM X.γ a mh mn mkd mfg mag mpo mwy mdy mhw mkk mkf mrs mrm mrw mth maw mgr mwa mre mpl mib msn mpn mlo mtl mke mim mhi mp0 mtk (.ref (a 19)) mun msd mbe) rfl dX12_carryAll_2 ?_
  refine x_aload_n C 0 rfl rfl dX12_carryAll_5 ?_
  refine x_iload_n C 2 rfl rfl dX12_carryAll_6 ?_
  refine x_put C in_X12_carryAll_X12 tyX12 tyX12_ok nmX12 0 rfl rfl 29 (by decide) (List.mem_of_getElem? (i := 2) rfl) rfl rfl rfl (nar_z (by decide)) (fits_z (by decide)) (Nat.le_of_ble_eq_true rfl) (WM X.γ a mh mn mkd mfg mag mpo mwy mdy mhw mkk mkf mrs mrm mrw mth maw mgr mwa mre mpl mib msn mpn mlo mtl mke mim mhi mp0 0 (.ref (a 19)) mun msd mbe) rfl dX12_carryAll_7 ?_
  refine x_aload_n C 0 rfl rfl dX12_carryAll_10 ?_
  refine x_iconst (v := 0) C dX12_carryAll_11 ?_
  refine x_put C in_X12_carryAll_X12 tyX12 tyX12_ok nmX12 0 rfl rfl 28 (by decide) (List.mem_of_getElem? (i := 3) rfl) rfl rfl rfl rfl rfl (Nat.le_of_ble_eq_true rfl) (WM X.γ a mh mn mkd mfg mag mpo mwy mdy mhw mkk mkf mrs mrm mrw mth maw mgr mwa mre mpl mib msn mpn mlo mtl mke mim mhi 0 0 (.ref (a 19)) mun msd mbe) rfl dX12_carryAll_12 ?_
  refine x_aload_n C 0 rfl rfl dX12_carryAll_15 ?_
  refine x_aload_n C 0 rfl rfl dX12_carryAll_16 ?_
  refine x_aload_n C 0 rfl rfl dX12_carryAll_17 ?_
  refine x_get C in_X12_carryAll_X12 0 rfl rfl 1 (by decide) (List.mem_of_getElem? (i := 4) rfl) rfl (v := .int (iN (mn))) rfl dX12_carryAll_18 ?_
  refine x_V_I C (As := [.int (iN (mn))]) (rest := [.ref (a 0)]) 1 0 rfl rfl gX12_carryAll_X12_carry rfl (c_X12_carry_im0 _ _ a mh mn mkd mfg mag mpo mwy mdy mhw mkk mkf mrs mrm mrw mth maw mgr mwa mre mpl mib msn mpn mlo mtl mke mim mhi 0 mun msd mbe (mn) (by omega)) rfl ok_X12_carry rfl rfl rfl rfl dX12_carryAll_21 (fun r w1 hp => ?_)
  obtain ⟨rfl, rfl⟩ := hp
  show Wx X 0 0 (WM X.γ a mh mn mkd mfg mag mpo mwy mdy mhw mkk mkf mrs mrm mrw mth maw mgr mwa mre mpl mib msn mpn mlo mtl mke mim mhi (0 + 1) 0 (.ref (a 19)) mun msd mbe) 24 [(0, .ref (a 0)), (1, .ref (a 19)), (2, .int (iN (0)))] [.int (iN (mim 0)), .ref (a 0)]
  rw [show mim 0 = n0 from by rw [hq _ (by omega) (by omega)]; exact rfl]
  refine x_put C in_X12_carryAll_X12 tyX12 tyX12_ok nmX12 0 rfl rfl 1 (by decide) (List.mem_of_getElem? (i := 4) rfl) rfl rfl rfl rfl rfl (Nat.le_of_ble_eq_true rfl) (WM X.γ a mh n0 mkd mfg mag mpo mwy mdy mhw mkk mkf mrs mrm mrw mth maw mgr mwa mre mpl mib msn mpn mlo mtl mke mim mhi (0 + 1) 0 (.ref (a 19)) mun msd mbe) rfl dX12_carryAll_24 ?_
  refine x_aload_n C 0 rfl rfl dX12_carryAll_27 ?_
  refine x_aload_n C 0 rfl rfl dX12_carryAll_28 ?_
  refine x_aload_n C 0 rfl rfl dX12_carryAll_29 ?_
  refine x_get C in_X12_carryAll_X12 0 rfl rfl 7 (by decide) (List.mem_of_getElem? (i := 5) rfl) rfl (v := .int (iN (mdy))) rfl dX12_carryAll_30 ?_
  refine x_V_I C (As := [.int (iN (mdy))]) (rest := [.ref (a 0)]) 1 0 rfl rfl gX12_carryAll_X12_carry rfl (c_X12_carry_im0 _ _ a mh n0 mkd mfg mag mpo mwy mdy mhw mkk mkf mrs mrm mrw mth maw mgr mwa mre mpl mib msn mpn mlo mtl mke mim mhi (0 + 1) mun msd mbe (mdy) (by omega)) rfl ok_X12_carry rfl rfl rfl rfl dX12_carryAll_33 (fun r w1 hp => ?_)
  obtain ⟨rfl, rfl⟩ := hp
  show Wx X 0 0 (WM X.γ a mh n0 mkd mfg mag mpo mwy mdy mhw mkk mkf mrs mrm mrw mth maw mgr mwa mre mpl mib msn mpn mlo mtl mke mim mhi ((0 + 1) + 1) 0 (.ref (a 19)) mun msd mbe) 36 [(0, .ref (a 0)), (1, .ref (a 19)), (2, .int (iN (0)))] [.int (iN (mim (0 + 1))), .ref (a 0)]
  rw [show mim (0 + 1) = dy0 from by rw [hq _ (by omega) (by omega)]; exact rfl]
  refine x_put C in_X12_carryAll_X12 tyX12 tyX12_ok nmX12 0 rfl rfl 7 (by decide) (List.mem_of_getElem? (i := 5) rfl) rfl rfl rfl rfl rfl (Nat.le_of_ble_eq_true rfl) (WM X.γ a mh n0 mkd mfg mag mpo mwy dy0 mhw mkk mkf mrs mrm mrw mth maw mgr mwa mre mpl mib msn mpn mlo mtl mke mim mhi ((0 + 1) + 1) 0 (.ref (a 19)) mun msd mbe) rfl dX12_carryAll_36 ?_
  refine x_iconst (v := 0) C dX12_carryAll_39 ?_
  refine x_istore_n C [(3, .int (iN (0))), (0, .ref (a 0)), (1, .ref (a 19)), (2, .int (iN (0)))] rfl (by decide) rfl dX12_carryAll_40 ?_
  have LP41 : ∀ (f : Nat) (c : Nat) (H : Int → Int) (v3_41 : Int), (15 - c < f) → (c ≤ 15) → (∀ j : Int, 0 ≤ j → j < (c : Int) → H j = h0 j) → (((c : Int)) = v3_41) → Wx X 0 0 (WM X.γ a H n0 mkd mfg mag mpo mwy dy0 mhw mkk mkf mrs mrm mrw mth maw mgr mwa mre mpl mib msn mpn mlo mtl mke mim mhi (2 + (c : Int)) 0 (.ref (a 19)) mun msd mbe) 41 [(3, .int (iN (v3_41))), (0, .ref (a 0)), (1, .ref (a 19)), (2, .int (iN (0)))] [] := by
    intro f
    induction f with
    | zero => intro c H v3_41 hf; exact absurd hf (Nat.not_lt_zero _)
    | succ f ih41 =>
      intro c H v3_41 hf hc hH e3_41
      subst e3_41
      refine x_iload_n C 0 rfl rfl dX12_carryAll_41 ?_
      refine x_bipush C (15) (by decide) dX12_carryAll_42 ?_
      refine x_icmp_ge C 69 (by decide) (by omega) dX12_carryAll_44 (fun c_44 => ?_) (fun c_44 => ?_)
      · refine x_canonI (f := H) (g := h0) 1 rfl (fun j h1 h2 => hH j h1 (by omega)) (WM X.γ a h0 n0 mkd mfg mag mpo mwy dy0 mhw mkk mkf mrs mrm mrw mth maw mgr mwa mre mpl mib msn mpn mlo mtl mke mim mhi (2 + (c : Int)) 0 (.ref (a 19)) mun msd mbe) rfl ?_
        refine x_iconst (v := 0) C dX12_carryAll_69 ?_
        refine x_istore_n C [(3, .int (iN (0))), (0, .ref (a 0)), (1, .ref (a 19)), (2, .int (iN (0)))] rfl (by decide) rfl dX12_carryAll_70 ?_
        have LP71 : ∀ (f : Nat) (u : Nat) (Gkd : Int → Int) (Gfg : Int → Int) (Gag : Int → Int) (Gpo : Int → Int) (Gwy : Int → Int) (v3_71 : Int), (6 - u < f) → (u ≤ 6) → (∀ j : Int, 0 ≤ j → j < (u : Int) → Gkd j = kd0 j) → (∀ j : Int, 0 ≤ j → j < (u : Int) → Gfg j = fg0 j) → (∀ j : Int, 0 ≤ j → j < (u : Int) → Gag j = ag0 j) → (∀ j : Int, 0 ≤ j → j < (u : Int) → Gpo j = po0 j) → (∀ j : Int, 0 ≤ j → j < (u : Int) → Gwy j = wy0 j) → (((u : Int)) = v3_71) → Wx X 0 0 (WM X.γ a h0 n0 Gkd Gfg Gag Gpo Gwy dy0 mhw mkk mkf mrs mrm mrw mth maw mgr mwa mre mpl mib msn mpn mlo mtl mke mim mhi (17 + 5 * (u : Int)) 0 (.ref (a 19)) mun msd mbe) 71 [(3, .int (iN (v3_71))), (0, .ref (a 0)), (1, .ref (a 19)), (2, .int (iN (0)))] [] := by
          intro f
          induction f with
          | zero => intro u Gkd Gfg Gag Gpo Gwy v3_71 hf; exact absurd hf (Nat.not_lt_zero _)
          | succ f ih71 =>
            intro u Gkd Gfg Gag Gpo Gwy v3_71 hf hu hkd hfg hag hpo hwy e3_71
            subst e3_71
            refine x_iload_n C 0 rfl rfl dX12_carryAll_71 ?_
            refine x_bipush C (6) (by decide) dX12_carryAll_72 ?_
            refine x_icmp_ge C 163 (by decide) (by omega) dX12_carryAll_74 (fun c_74 => ?_) (fun c_74 => ?_)
            · refine Wx.eqW (ws' := (WM X.γ a h0 n0 Gkd Gfg Gag Gpo Gwy dy0 mhw mkk mkf mrs mrm mrw mth maw mgr mwa mre mpl mib msn mpn mlo mtl mke mim mhi 47 0 (.ref (a 19)) mun msd mbe)) (by rw [show (17 + 5 * (u : Int) : Int) = 47 by omega]) ?_
              refine x_canonI (f := Gkd) (g := kd0) 2 rfl (fun j h1 h2 => hkd j h1 (by omega)) (WM X.γ a h0 n0 kd0 Gfg Gag Gpo Gwy dy0 mhw mkk mkf mrs mrm mrw mth maw mgr mwa mre mpl mib msn mpn mlo mtl mke mim mhi 47 0 (.ref (a 19)) mun msd mbe) rfl ?_
              refine x_canonI (f := Gfg) (g := fg0) 3 rfl (fun j h1 h2 => hfg j h1 (by omega)) (WM X.γ a h0 n0 kd0 fg0 Gag Gpo Gwy dy0 mhw mkk mkf mrs mrm mrw mth maw mgr mwa mre mpl mib msn mpn mlo mtl mke mim mhi 47 0 (.ref (a 19)) mun msd mbe) rfl ?_
              refine x_canonI (f := Gag) (g := ag0) 4 rfl (fun j h1 h2 => hag j h1 (by omega)) (WM X.γ a h0 n0 kd0 fg0 ag0 Gpo Gwy dy0 mhw mkk mkf mrs mrm mrw mth maw mgr mwa mre mpl mib msn mpn mlo mtl mke mim mhi 47 0 (.ref (a 19)) mun msd mbe) rfl ?_
              refine x_canonI (f := Gpo) (g := po0) 5 rfl (fun j h1 h2 => hpo j h1 (by omega)) (WM X.γ a h0 n0 kd0 fg0 ag0 po0 Gwy dy0 mhw mkk mkf mrs mrm mrw mth maw mgr mwa mre mpl mib msn mpn mlo mtl mke mim mhi 47 0 (.ref (a 19)) mun msd mbe) rfl ?_
              refine x_canonI (f := Gwy) (g := wy0) 6 rfl (fun j h1 h2 => hwy j h1 (by omega)) (WM X.γ a h0 n0 kd0 fg0 ag0 po0 wy0 dy0 mhw mkk mkf mrs mrm mrw mth maw mgr mwa mre mpl mib msn mpn mlo mtl mke mim mhi 47 0 (.ref (a 19)) mun msd mbe) rfl ?_
              exact hret _ _ _ dX12_carryAll_163 rfl
            · refine x_aload_n C 1 rfl rfl dX12_carryAll_77 ?_
              refine x_get C in_X12_carryAll_X12 0 rfl rfl 2 (by decide) (List.mem_of_getElem? (i := 7) rfl) rfl (v := .ref (a 2)) rfl dX12_carryAll_78 ?_
              refine x_iload_n C 0 rfl rfl dX12_carryAll_81 ?_
              refine x_aload_n C 1 rfl rfl dX12_carryAll_82 ?_
              refine x_aload_n C 1 rfl rfl dX12_carryAll_83 ?_
              refine x_get C in_X12_carryAll_X12 0 rfl rfl 2 (by decide) (List.mem_of_getElem? (i := 7) rfl) rfl (v := .ref (a 2)) rfl dX12_carryAll_84 ?_
              refine x_iload_n C 0 rfl rfl dX12_carryAll_87 ?_
              refine x_iaload C (f := Gkd) 2 rfl (by omega) rfl dX12_carryAll_88 ?_
              refine x_V_I C (As := [.int (iN (Gkd (u : Int)))]) (rest := [.int (iN ((u : Int))), .ref (a 2)]) 1 0 rfl rfl gX12_carryAll_X12_carry rfl (c_X12_carry_im0 _ _ a h0 n0 Gkd Gfg Gag Gpo Gwy dy0 mhw mkk mkf mrs mrm mrw mth maw mgr mwa mre mpl mib msn mpn mlo mtl mke mim mhi (17 + 5 * (u : Int)) mun msd mbe (Gkd (u : Int)) (by omega)) rfl ok_X12_carry rfl rfl rfl rfl dX12_carryAll_89 (fun r w1 hp => ?_)
              obtain ⟨rfl, rfl⟩ := hp
              show Wx X 0 0 (WM X.γ a h0 n0 Gkd Gfg Gag Gpo Gwy dy0 mhw mkk mkf mrs mrm mrw mth maw mgr mwa mre mpl mib msn mpn mlo mtl mke mim mhi ((17 + 5 * (u : Int)) + 1) 0 (.ref (a 19)) mun msd mbe) 92 [(3, .int (iN ((u : Int)))), (0, .ref (a 0)), (1, .ref (a 19)), (2, .int (iN (0)))] [.int (iN (mim (17 + 5 * (u : Int)))), .int (iN ((u : Int))), .ref (a 2)]
              rw [show mim (17 + 5 * (u : Int)) = kd0 (u : Int) from by rw [hq _ (by omega) (by omega)]; exact (by unfold pck; rw [if_neg (by omega), if_neg (by omega), if_neg (by omega), if_pos (by omega)]; congr 1; omega)]
              refine x_iastore C (f := Gkd) 2 rfl (by omega) rfl (WM X.γ a h0 n0 (upz Gkd (u : Int) (kd0 (u : Int))) Gfg Gag Gpo Gwy dy0 mhw mkk mkf mrs mrm mrw mth maw mgr mwa mre mpl mib msn mpn mlo mtl mke mim mhi ((17 + 5 * (u : Int)) + 1) 0 (.ref (a 19)) mun msd mbe) rfl dX12_carryAll_92 ?_
              refine x_aload_n C 1 rfl rfl dX12_carryAll_93 ?_
              refine x_get C in_X12_carryAll_X12 0 rfl rfl 3 (by decide) (List.mem_of_getElem? (i := 8) rfl) rfl (v := .ref (a 3)) rfl dX12_carryAll_94 ?_
              refine x_iload_n C 0 rfl rfl dX12_carryAll_97 ?_
              refine x_aload_n C 1 rfl rfl dX12_carryAll_98 ?_
              refine x_aload_n C 1 rfl rfl dX12_carryAll_99 ?_
              refine x_get C in_X12_carryAll_X12 0 rfl rfl 3 (by decide) (List.mem_of_getElem? (i := 8) rfl) rfl (v := .ref (a 3)) rfl dX12_carryAll_100 ?_
              refine x_iload_n C 0 rfl rfl dX12_carryAll_103 ?_
              refine x_iaload C (f := Gfg) 3 rfl (by omega) rfl dX12_carryAll_104 ?_
              refine x_V_I C (As := [.int (iN (Gfg (u : Int)))]) (rest := [.int (iN ((u : Int))), .ref (a 3)]) 1 0 rfl rfl gX12_carryAll_X12_carry rfl (c_X12_carry_im0 _ _ a h0 n0 (upz Gkd (u : Int) (kd0 (u : Int))) Gfg Gag Gpo Gwy dy0 mhw mkk mkf mrs mrm mrw mth maw mgr mwa mre mpl mib msn mpn mlo mtl mke mim mhi ((17 + 5 * (u : Int)) + 1) mun msd mbe (Gfg (u : Int)) (by omega)) rfl ok_X12_carry rfl rfl rfl rfl dX12_carryAll_105 (fun r w1 hp => ?_)
              obtain ⟨rfl, rfl⟩ := hp
              show Wx X 0 0 (WM X.γ a h0 n0 (upz Gkd (u : Int) (kd0 (u : Int))) Gfg Gag Gpo Gwy dy0 mhw mkk mkf mrs mrm mrw mth maw mgr mwa mre mpl mib msn mpn mlo mtl mke mim mhi (((17 + 5 * (u : Int)) + 1) + 1) 0 (.ref (a 19)) mun msd mbe) 108 [(3, .int (iN ((u : Int)))), (0, .ref (a 0)), (1, .ref (a 19)), (2, .int (iN (0)))] [.int (iN (mim ((17 + 5 * (u : Int)) + 1))), .int (iN ((u : Int))), .ref (a 3)]
              rw [show mim ((17 + 5 * (u : Int)) + 1) = fg0 (u : Int) from by rw [hq _ (by omega) (by omega)]; exact (by unfold pck; rw [if_neg (by omega), if_neg (by omega), if_neg (by omega), if_neg (by omega), if_pos (by omega)]; congr 1; omega)]
              refine x_iastore C (f := Gfg) 3 rfl (by omega) rfl (WM X.γ a h0 n0 (upz Gkd (u : Int) (kd0 (u : Int))) (upz Gfg (u : Int) (fg0 (u : Int))) Gag Gpo Gwy dy0 mhw mkk mkf mrs mrm mrw mth maw mgr mwa mre mpl mib msn mpn mlo mtl mke mim mhi (((17 + 5 * (u : Int)) + 1) + 1) 0 (.ref (a 19)) mun msd mbe) rfl dX12_carryAll_108 ?_
              refine x_aload_n C 1 rfl rfl dX12_carryAll_109 ?_
              refine x_get C in_X12_carryAll_X12 0 rfl rfl 4 (by decide) (List.mem_of_getElem? (i := 9) rfl) rfl (v := .ref (a 4)) rfl dX12_carryAll_110 ?_
              refine x_iload_n C 0 rfl rfl dX12_carryAll_113 ?_
              refine x_aload_n C 1 rfl rfl dX12_carryAll_114 ?_
              refine x_aload_n C 1 rfl rfl dX12_carryAll_115 ?_
              refine x_get C in_X12_carryAll_X12 0 rfl rfl 4 (by decide) (List.mem_of_getElem? (i := 9) rfl) rfl (v := .ref (a 4)) rfl dX12_carryAll_116 ?_
              refine x_iload_n C 0 rfl rfl dX12_carryAll_119 ?_
              refine x_iaload C (f := Gag) 4 rfl (by omega) rfl dX12_carryAll_120 ?_
              refine x_V_I C (As := [.int (iN (Gag (u : Int)))]) (rest := [.int (iN ((u : Int))), .ref (a 4)]) 1 0 rfl rfl gX12_carryAll_X12_carry rfl (c_X12_carry_im0 _ _ a h0 n0 (upz Gkd (u : Int) (kd0 (u : Int))) (upz Gfg (u : Int) (fg0 (u : Int))) Gag Gpo Gwy dy0 mhw mkk mkf mrs mrm mrw mth maw mgr mwa mre mpl mib msn mpn mlo mtl mke mim mhi (((17 + 5 * (u : Int)) + 1) + 1) mun msd mbe (Gag (u : Int)) (by omega)) rfl ok_X12_carry rfl rfl rfl rfl dX12_carryAll_121 (fun r w1 hp => ?_)
              obtain ⟨rfl, rfl⟩ := hp
              show Wx X 0 0 (WM X.γ a h0 n0 (upz Gkd (u : Int) (kd0 (u : Int))) (upz Gfg (u : Int) (fg0 (u : Int))) Gag Gpo Gwy dy0 mhw mkk mkf mrs mrm mrw mth maw mgr mwa mre mpl mib msn mpn mlo mtl mke mim mhi ((((17 + 5 * (u : Int)) + 1) + 1) + 1) 0 (.ref (a 19)) mun msd mbe) 124 [(3, .int (iN ((u : Int)))), (0, .ref (a 0)), (1, .ref (a 19)), (2, .int (iN (0)))] [.int (iN (mim (((17 + 5 * (u : Int)) + 1) + 1))), .int (iN ((u : Int))), .ref (a 4)]
              rw [show mim (((17 + 5 * (u : Int)) + 1) + 1) = ag0 (u : Int) from by rw [hq _ (by omega) (by omega)]; exact (by unfold pck; rw [if_neg (by omega), if_neg (by omega), if_neg (by omega), if_neg (by omega), if_neg (by omega), if_pos (by omega)]; congr 1; omega)]
              refine x_iastore C (f := Gag) 4 rfl (by omega) rfl (WM X.γ a h0 n0 (upz Gkd (u : Int) (kd0 (u : Int))) (upz Gfg (u : Int) (fg0 (u : Int))) (upz Gag (u : Int) (ag0 (u : Int))) Gpo Gwy dy0 mhw mkk mkf mrs mrm mrw mth maw mgr mwa mre mpl mib msn mpn mlo mtl mke mim mhi ((((17 + 5 * (u : Int)) + 1) + 1) + 1) 0 (.ref (a 19)) mun msd mbe) rfl dX12_carryAll_124 ?_
              refine x_aload_n C 1 rfl rfl dX12_carryAll_125 ?_
              refine x_get C in_X12_carryAll_X12 0 rfl rfl 5 (by decide) (List.mem_of_getElem? (i := 10) rfl) rfl (v := .ref (a 5)) rfl dX12_carryAll_126 ?_
              refine x_iload_n C 0 rfl rfl dX12_carryAll_129 ?_
              refine x_aload_n C 1 rfl rfl dX12_carryAll_130 ?_
              refine x_aload_n C 1 rfl rfl dX12_carryAll_131 ?_
              refine x_get C in_X12_carryAll_X12 0 rfl rfl 5 (by decide) (List.mem_of_getElem? (i := 10) rfl) rfl (v := .ref (a 5)) rfl dX12_carryAll_132 ?_
              refine x_iload_n C 0 rfl rfl dX12_carryAll_135 ?_
              refine x_iaload C (f := Gpo) 5 rfl (by omega) rfl dX12_carryAll_136 ?_
              refine x_V_I C (As := [.int (iN (Gpo (u : Int)))]) (rest := [.int (iN ((u : Int))), .ref (a 5)]) 1 0 rfl rfl gX12_carryAll_X12_carry rfl (c_X12_carry_im0 _ _ a h0 n0 (upz Gkd (u : Int) (kd0 (u : Int))) (upz Gfg (u : Int) (fg0 (u : Int))) (upz Gag (u : Int) (ag0 (u : Int))) Gpo Gwy dy0 mhw mkk mkf mrs mrm mrw mth maw mgr mwa mre mpl mib msn mpn mlo mtl mke mim mhi ((((17 + 5 * (u : Int)) + 1) + 1) + 1) mun msd mbe (Gpo (u : Int)) (by omega)) rfl ok_X12_carry rfl rfl rfl rfl dX12_carryAll_137 (fun r w1 hp => ?_)
              obtain ⟨rfl, rfl⟩ := hp
              show Wx X 0 0 (WM X.γ a h0 n0 (upz Gkd (u : Int) (kd0 (u : Int))) (upz Gfg (u : Int) (fg0 (u : Int))) (upz Gag (u : Int) (ag0 (u : Int))) Gpo Gwy dy0 mhw mkk mkf mrs mrm mrw mth maw mgr mwa mre mpl mib msn mpn mlo mtl mke mim mhi (((((17 + 5 * (u : Int)) + 1) + 1) + 1) + 1) 0 (.ref (a 19)) mun msd mbe) 140 [(3, .int (iN ((u : Int)))), (0, .ref (a 0)), (1, .ref (a 19)), (2, .int (iN (0)))] [.int (iN (mim ((((17 + 5 * (u : Int)) + 1) + 1) + 1))), .int (iN ((u : Int))), .ref (a 5)]
              rw [show mim ((((17 + 5 * (u : Int)) + 1) + 1) + 1) = po0 (u : Int) from by rw [hq _ (by omega) (by omega)]; exact (by unfold pck; rw [if_neg (by omega), if_neg (by omega), if_neg (by omega), if_neg (by omega), if_neg (by omega), if_neg (by omega), if_pos (by omega)]; congr 1; omega)]
              refine x_iastore C (f := Gpo) 5 rfl (by omega) rfl (WM X.γ a h0 n0 (upz Gkd (u : Int) (kd0 (u : Int))) (upz Gfg (u : Int) (fg0 (u : Int))) (upz Gag (u : Int) (ag0 (u : Int))) (upz Gpo (u : Int) (po0 (u : Int))) Gwy dy0 mhw mkk mkf mrs mrm mrw mth maw mgr mwa mre mpl mib msn mpn mlo mtl mke mim mhi (((((17 + 5 * (u : Int)) + 1) + 1) + 1) + 1) 0 (.ref (a 19)) mun msd mbe) rfl dX12_carryAll_140 ?_
              refine x_aload_n C 1 rfl rfl dX12_carryAll_141 ?_
              refine x_get C in_X12_carryAll_X12 0 rfl rfl 6 (by decide) (List.mem_of_getElem? (i := 11) rfl) rfl (v := .ref (a 6)) rfl dX12_carryAll_142 ?_
              refine x_iload_n C 0 rfl rfl dX12_carryAll_145 ?_
              refine x_aload_n C 1 rfl rfl dX12_carryAll_146 ?_
              refine x_aload_n C 1 rfl rfl dX12_carryAll_147 ?_
              refine x_get C in_X12_carryAll_X12 0 rfl rfl 6 (by decide) (List.mem_of_getElem? (i := 11) rfl) rfl (v := .ref (a 6)) rfl dX12_carryAll_148 ?_
              refine x_iload_n C 0 rfl rfl dX12_carryAll_151 ?_
              refine x_iaload C (f := Gwy) 6 rfl (by omega) rfl dX12_carryAll_152 ?_
              refine x_V_I C (As := [.int (iN (Gwy (u : Int)))]) (rest := [.int (iN ((u : Int))), .ref (a 6)]) 1 0 rfl rfl gX12_carryAll_X12_carry rfl (c_X12_carry_im0 _ _ a h0 n0 (upz Gkd (u : Int) (kd0 (u : Int))) (upz Gfg (u : Int) (fg0 (u : Int))) (upz Gag (u : Int) (ag0 (u : Int))) (upz Gpo (u : Int) (po0 (u : Int))) Gwy dy0 mhw mkk mkf mrs mrm mrw mth maw mgr mwa mre mpl mib msn mpn mlo mtl mke mim mhi (((((17 + 5 * (u : Int)) + 1) + 1) + 1) + 1) mun msd mbe (Gwy (u : Int)) (by omega)) rfl ok_X12_carry rfl rfl rfl rfl dX12_carryAll_153 (fun r w1 hp => ?_)
              obtain ⟨rfl, rfl⟩ := hp
              show Wx X 0 0 (WM X.γ a h0 n0 (upz Gkd (u : Int) (kd0 (u : Int))) (upz Gfg (u : Int) (fg0 (u : Int))) (upz Gag (u : Int) (ag0 (u : Int))) (upz Gpo (u : Int) (po0 (u : Int))) Gwy dy0 mhw mkk mkf mrs mrm mrw mth maw mgr mwa mre mpl mib msn mpn mlo mtl mke mim mhi ((((((17 + 5 * (u : Int)) + 1) + 1) + 1) + 1) + 1) 0 (.ref (a 19)) mun msd mbe) 156 [(3, .int (iN ((u : Int)))), (0, .ref (a 0)), (1, .ref (a 19)), (2, .int (iN (0)))] [.int (iN (mim (((((17 + 5 * (u : Int)) + 1) + 1) + 1) + 1))), .int (iN ((u : Int))), .ref (a 6)]
              rw [show mim (((((17 + 5 * (u : Int)) + 1) + 1) + 1) + 1) = wy0 (u : Int) from by rw [hq _ (by omega) (by omega)]; exact (by unfold pck; rw [if_neg (by omega), if_neg (by omega), if_neg (by omega), if_neg (by omega), if_neg (by omega), if_neg (by omega), if_neg (by omega)]; congr 1; omega)]
              refine x_iastore C (f := Gwy) 6 rfl (by omega) rfl (WM X.γ a h0 n0 (upz Gkd (u : Int) (kd0 (u : Int))) (upz Gfg (u : Int) (fg0 (u : Int))) (upz Gag (u : Int) (ag0 (u : Int))) (upz Gpo (u : Int) (po0 (u : Int))) (upz Gwy (u : Int) (wy0 (u : Int))) dy0 mhw mkk mkf mrs mrm mrw mth maw mgr mwa mre mpl mib msn mpn mlo mtl mke mim mhi ((((((17 + 5 * (u : Int)) + 1) + 1) + 1) + 1) + 1) 0 (.ref (a 19)) mun msd mbe) rfl dX12_carryAll_156 ?_
              refine x_iinc C 0 [(3, .int (iN ((u : Int) + 1))), (0, .ref (a 0)), (1, .ref (a 19)), (2, .int (iN (0)))] rfl rfl (by decide) rfl dX12_carryAll_157 ?_
              refine x_goto C 71 (by decide) dX12_carryAll_160 ?_
              refine Wx.eqW (ws' := (WM X.γ a h0 n0 (upz Gkd (u : Int) (kd0 (u : Int))) (upz Gfg (u : Int) (fg0 (u : Int))) (upz Gag (u : Int) (ag0 (u : Int))) (upz Gpo (u : Int) (po0 (u : Int))) (upz Gwy (u : Int) (wy0 (u : Int))) dy0 mhw mkk mkf mrs mrm mrw mth maw mgr mwa mre mpl mib msn mpn mlo mtl mke mim mhi (17 + 5 * ((u + 1 : Nat) : Int)) 0 (.ref (a 19)) mun msd mbe)) (by rw [show ((((((17 + 5 * (u : Int)) + 1) + 1) + 1) + 1) + 1 : Int) = 17 + 5 * ((u + 1 : Nat) : Int) by omega]) ?_
              exact ih71 (u + 1) (upz Gkd (u : Int) (kd0 (u : Int))) (upz Gfg (u : Int) (fg0 (u : Int))) (upz Gag (u : Int) (ag0 (u : Int))) (upz Gpo (u : Int) (po0 (u : Int))) (upz Gwy (u : Int) (wy0 (u : Int))) _ (by omega) (by omega) (fun j h1 h2 => upz_up hkd rfl j h1 (by omega)) (fun j h1 h2 => upz_up hfg rfl j h1 (by omega)) (fun j h1 h2 => upz_up hag rfl j h1 (by omega)) (fun j h1 h2 => upz_up hpo rfl j h1 (by omega)) (fun j h1 h2 => upz_up hwy rfl j h1 (by omega)) (by omega)
        refine Wx.eqW (ws' := (WM X.γ a h0 n0 mkd mfg mag mpo mwy dy0 mhw mkk mkf mrs mrm mrw mth maw mgr mwa mre mpl mib msn mpn mlo mtl mke mim mhi (17 + 5 * ((0 : Nat) : Int)) 0 (.ref (a 19)) mun msd mbe)) (by rw [show (2 + (c : Int) : Int) = 17 + 5 * ((0 : Nat) : Int) by omega]) ?_
        exact LP71 ((6 - (0)) + 1) (0) (mkd) (mfg) (mag) (mpo) (mwy) _ (by omega) (by omega) (fun j h1 h2 => by omega) (fun j h1 h2 => by omega) (fun j h1 h2 => by omega) (fun j h1 h2 => by omega) (fun j h1 h2 => by omega) (by omega)
      · refine x_aload_n C 1 rfl rfl dX12_carryAll_47 ?_
        refine x_get C in_X12_carryAll_X12 0 rfl rfl 0 (by decide) (List.mem_of_getElem? (i := 6) rfl) rfl (v := .ref (a 1)) rfl dX12_carryAll_48 ?_
        refine x_iload_n C 0 rfl rfl dX12_carryAll_51 ?_
        refine x_aload_n C 1 rfl rfl dX12_carryAll_52 ?_
        refine x_aload_n C 1 rfl rfl dX12_carryAll_53 ?_
        refine x_get C in_X12_carryAll_X12 0 rfl rfl 0 (by decide) (List.mem_of_getElem? (i := 6) rfl) rfl (v := .ref (a 1)) rfl dX12_carryAll_54 ?_
        refine x_iload_n C 0 rfl rfl dX12_carryAll_57 ?_
        refine x_iaload C (f := H) 1 rfl (by omega) rfl dX12_carryAll_58 ?_
        refine x_V_I C (As := [.int (iN (H (c : Int)))]) (rest := [.int (iN ((c : Int))), .ref (a 1)]) 1 0 rfl rfl gX12_carryAll_X12_carry rfl (c_X12_carry_im0 _ _ a H n0 mkd mfg mag mpo mwy dy0 mhw mkk mkf mrs mrm mrw mth maw mgr mwa mre mpl mib msn mpn mlo mtl mke mim mhi (2 + (c : Int)) mun msd mbe (H (c : Int)) (by omega)) rfl ok_X12_carry rfl rfl rfl rfl dX12_carryAll_59 (fun r w1 hp => ?_)
        obtain ⟨rfl, rfl⟩ := hp
        show Wx X 0 0 (WM X.γ a H n0 mkd mfg mag mpo mwy dy0 mhw mkk mkf mrs mrm mrw mth maw mgr mwa mre mpl mib msn mpn mlo mtl mke mim mhi ((2 + (c : Int)) + 1) 0 (.ref (a 19)) mun msd mbe) 62 [(3, .int (iN ((c : Int)))), (0, .ref (a 0)), (1, .ref (a 19)), (2, .int (iN (0)))] [.int (iN (mim (2 + (c : Int)))), .int (iN ((c : Int))), .ref (a 1)]
        rw [show mim (2 + (c : Int)) = h0 (c : Int) from by rw [hq _ (by omega) (by omega)]; exact (by unfold pck; rw [if_neg (by omega), if_neg (by omega), if_pos (by omega)]; congr 1; omega)]
        refine x_iastore C (f := H) 1 rfl (by omega) rfl (WM X.γ a (upz H (c : Int) (h0 (c : Int))) n0 mkd mfg mag mpo mwy dy0 mhw mkk mkf mrs mrm mrw mth maw mgr mwa mre mpl mib msn mpn mlo mtl mke mim mhi ((2 + (c : Int)) + 1) 0 (.ref (a 19)) mun msd mbe) rfl dX12_carryAll_62 ?_
        refine x_iinc C 0 [(3, .int (iN ((c : Int) + 1))), (0, .ref (a 0)), (1, .ref (a 19)), (2, .int (iN (0)))] rfl rfl (by decide) rfl dX12_carryAll_63 ?_
        refine x_goto C 41 (by decide) dX12_carryAll_66 ?_
        refine Wx.eqW (ws' := (WM X.γ a (upz H (c : Int) (h0 (c : Int))) n0 mkd mfg mag mpo mwy dy0 mhw mkk mkf mrs mrm mrw mth maw mgr mwa mre mpl mib msn mpn mlo mtl mke mim mhi (2 + ((c + 1 : Nat) : Int)) 0 (.ref (a 19)) mun msd mbe)) (by rw [show ((2 + (c : Int)) + 1 : Int) = 2 + ((c + 1 : Nat) : Int) by omega]) ?_
        exact ih41 (c + 1) (upz H (c : Int) (h0 (c : Int))) _ (by omega) (by omega) (fun j h1 h2 => upz_up hH rfl j h1 (by omega)) (by omega)
  refine Wx.eqW (ws' := (WM X.γ a mh n0 mkd mfg mag mpo mwy dy0 mhw mkk mkf mrs mrm mrw mth maw mgr mwa mre mpl mib msn mpn mlo mtl mke mim mhi (2 + ((0 : Nat) : Int)) 0 (.ref (a 19)) mun msd mbe)) (by rw [show ((0 + 1) + 1 : Int) = 2 + ((0 : Nat) : Int) by omega]) ?_
  exact LP41 ((15 - (0)) + 1) (0) (mh) _ (by omega) (by omega) (fun j h1 h2 => by omega) (by omega)
theorem in_X12_open_X12 : ∀ w ∈ u_ws RX12 TX12 34, w ∈ wsX12_open := by decide +kernel
theorem ok_X12_open : okY yX12_open 0 := by decide +kernel
def rmX12_open : Room := { frames := 2, cells := 0, slots := 0, locals := 44 }
set_option maxRecDepth 100000 in
set_option maxHeartbeats 400000 in
theorem c_X12_open (l : Launch) (γ : GX) (a : Nat → Nat) (mh : Int → Int) (mn : Int) (mkd : Int → Int) (mfg : Int → Int) (mag : Int → Int) (mpo : Int → Int) (mwy : Int → Int) (mdy : Int) (mhw : Int → Int) (mkk : Int → Int) (mkf : Int → Int) (mrs : Int → Int) (mrm : Int → Int) (mrw : Int → Int) (mth : Int) (maw : Int) (mgr : Int → Int) (mwa : Int → Int) (mre : Int) (mpl : Int) (mib : Int) (msn : Int) (mpn : Int → Int) (mlo : Int → Int) (mtl : Int → Int) (mke : Int → Int) (mim : Int → Int) (mhi : Int) (mp0 : Int) (mtk : Int) (mki : Value) (mun : Int → Int) (msd : Int) (mbe : Int → Int) : MV l γ yX12_open wsX12_open rmX12_open [.ref (a 0)] (WM γ a mh mn mkd mfg mag mpo mwy mdy mhw mkk mkf mrs mrm mrw mth maw mgr mwa mre mpl mib msn mpn mlo mtl mke mim mhi mp0 mtk mki mun msd mbe) (fun w_ => w_ = (WM γ a mh mn mkd mfg mag mpo mwy mdy mhw mkk mkf mrs mrm mrw mth maw mgr mwa mre mpl mib msn mpn mlo mtl (pck mh mn mdy mkd mfg mag mpo mwy) mim mhi 47 1 (.ref (a 18)) mun msd mbe)) 0 0 := by
  refine MV.of (cc := cX12_open) (maxL := 1) RX12 rfl (by decide +kernel) rfl (Nat.le_of_ble_eq_true rfl) ?_
  intro X C hγ hl hnm hret
  subst hγ
  show Wx X 0 0 (WM X.γ a mh mn mkd mfg mag mpo mwy mdy mhw mkk mkf mrs mrm mrw mth maw mgr mwa mre mpl mib msn mpn mlo mtl mke mim mhi mp0 mtk mki mun msd mbe) 0 [(0, .ref (a 0))] []
  refine x_aload_n C 0 rfl rfl dX12_open_0 ?_
  refine x_aload_n C 0 rfl rfl dX12_open_1 ?_
  refine x_get C in_X12_open_X12 0 rfl rfl 25 (by decide) (List.mem_of_getElem? (i := 1) rfl) rfl (v := .ref (a 18)) rfl dX12_open_2 ?_
  refine x_iconst (v := 0) C dX12_open_5 ?_
  refine x_V_V C (As := [.ref (a 18), .int (iN (1))]) (rest := []) 2 0 rfl rfl gX12_open_X12_carryAll rfl (c_X12_carryAll_ke1 _ _ a mh mn mkd mfg mag mpo mwy mdy mhw mkk mkf mrs mrm mrw mth maw mgr mwa mre mpl mib msn mpn mlo mtl mke mim mhi mp0 mtk mki mun msd mbe) rfl ok_X12_carryAll rfl rfl rfl rfl dX12_open_6 (fun w1 hp => ?_)
  obtain rfl := hp
  exact hret _ _ _ dX12_open_9 rfl
theorem in_X12_close_X12 : ∀ w ∈ u_ws RX12 TX12 34, w ∈ wsX12_close := by decide +kernel
theorem ok_X12_close : okY yX12_close 0 := by decide +kernel
def rmX12_close : Room := { frames := 2, cells := 0, slots := 0, locals := 44 }
set_option maxRecDepth 100000 in
set_option maxHeartbeats 400000 in
theorem c_X12_close (l : Launch) (γ : GX) (a : Nat → Nat) (mh : Int → Int) (mn : Int) (mkd : Int → Int) (mfg : Int → Int) (mag : Int → Int) (mpo : Int → Int) (mwy : Int → Int) (mdy : Int) (mhw : Int → Int) (mkk : Int → Int) (mkf : Int → Int) (mrs : Int → Int) (mrm : Int → Int) (mrw : Int → Int) (mth : Int) (maw : Int) (mgr : Int → Int) (mwa : Int → Int) (mre : Int) (mpl : Int) (mib : Int) (msn : Int) (mpn : Int → Int) (mlo : Int → Int) (mtl : Int → Int) (mim : Int → Int) (mhi : Int) (mp0 : Int) (mtk : Int) (mki : Value) (mun : Int → Int) (msd : Int) (mbe : Int → Int) (h0 : Int → Int) (n0 dy0 : Int) (kd0 fg0 ag0 po0 wy0 : Int → Int) : MV l γ yX12_close wsX12_close rmX12_close [.ref (a 0)] (WM γ a mh mn mkd mfg mag mpo mwy mdy mhw mkk mkf mrs mrm mrw mth maw mgr mwa mre mpl mib msn mpn mlo mtl (pck h0 n0 dy0 kd0 fg0 ag0 po0 wy0) mim mhi mp0 mtk mki mun msd mbe) (fun w_ => w_ = (WM γ a h0 n0 kd0 fg0 ag0 po0 wy0 dy0 mhw mkk mkf mrs mrm mrw mth maw mgr mwa mre mpl mib msn mpn mlo mtl (pck h0 n0 dy0 kd0 fg0 ag0 po0 wy0) mim mhi 47 0 (.ref (a 18)) mun msd mbe)) 0 0 := by
  refine MV.of (cc := cX12_close) (maxL := 1) RX12 rfl (by decide +kernel) rfl (Nat.le_of_ble_eq_true rfl) ?_
  intro X C hγ hl hnm hret
  subst hγ
  show Wx X 0 0 (WM X.γ a mh mn mkd mfg mag mpo mwy mdy mhw mkk mkf mrs mrm mrw mth maw mgr mwa mre mpl mib msn mpn mlo mtl (pck h0 n0 dy0 kd0 fg0 ag0 po0 wy0) mim mhi mp0 mtk mki mun msd mbe) 0 [(0, .ref (a 0))] []
  refine x_aload_n C 0 rfl rfl dX12_close_0 ?_
  refine x_aload_n C 0 rfl rfl dX12_close_1 ?_
  refine x_get C in_X12_close_X12 0 rfl rfl 25 (by decide) (List.mem_of_getElem? (i := 1) rfl) rfl (v := .ref (a 18)) rfl dX12_close_2 ?_
  refine x_iconst (v := 0) C dX12_close_5 ?_
  refine x_V_V C (As := [.ref (a 18), .int (iN (0))]) (rest := []) 2 0 rfl rfl gX12_close_X12_carryAll rfl (c_X12_carryAll_ke0 _ _ a mh mn mkd mfg mag mpo mwy mdy mhw mkk mkf mrs mrm mrw mth maw mgr mwa mre mpl mib msn mpn mlo mtl (pck h0 n0 dy0 kd0 fg0 ag0 po0 wy0) mim mhi mp0 mtk mki mun msd mbe h0 n0 dy0 kd0 fg0 ag0 po0 wy0 (fun j h1 h2 => rfl)) rfl ok_X12_carryAll rfl rfl rfl rfl dX12_close_6 (fun w1 hp => ?_)
  obtain rfl := hp
  exact hret _ _ _ dX12_close_9 rfl
end HCAR
