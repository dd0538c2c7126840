section HREAab
theorem in_X12_readDigits_X12 : ∀ w ∈ u_ws RX12 TX12 34, w ∈ wsX12_readDigits := by decide +kernel
theorem ok_X12_readDigits : okY yX12_readDigits 1 := by decide +kernel
def rmX12_readDigits : Room := { frames := 1, cells := 0, slots := 0, locals := 25 }
set_option maxRecDepth 100000 in
set_option maxHeartbeats 400000 in
theorem c_X12_readDigits_0 (l : Launch) (γ : GX) (a : Nat → Nat) (mh : Int → Int) (mn : Int) (mkd : Int → Int) (mfg : Int → Int) (mag : Int → Int) (mpo : Int → Int) (mwy : Int → Int) (mdy : Int) (mhw : Int → Int) (mkk : Int → Int) (mkf : Int → Int) (mrs : Int → Int) (mrm : Int → Int) (mrw : Int → Int) (mth : Int) (maw : Int) (mgr : Int → Int) (mwa : Int → Int) (mre : Int) (mpl : Int) (msn : Int) (mpn : Int → Int) (mlo : Int → Int) (mtl : Int → Int) (mke : Int → Int) (mim : Int → Int) (mhi : Int) (mp0 : Int) (mtk : Int) (mki : Value) (mun : Int → Int) (msd : Int) (mbe : Int → Int) (hM : WFm mn mh mkd mfg mag mpo mwy mhw mkk mkf mrs mrm mrw) (m : Int) (h0_ : 0 ≤ m ∧ m ≤ 7) (h1_ : 0 ≤ mre ∧ mre ≤ 7) (h2_ : 0 ≤ mpl ∧ mpl ≤ 200) : MI l γ yX12_readDigits wsX12_readDigits rmX12_readDigits [.ref (a 0), .int (iN (m))] (WM γ a mh mn mkd mfg mag mpo mwy mdy mhw mkk mkf mrs mrm mrw mth maw mgr mwa mre mpl 0 msn mpn mlo mtl mke mim mhi mp0 mtk mki mun msd mbe) (fun r_ w_ => (ldz (uz (fun t => mrw (100 * mre + t)) (mrm mre)) mpl m.toNat = m.toNat ∧ r_ = numz (uz (fun t => mrw (100 * mre + t)) (mrm mre)) mpl m.toNat ∧ w_ = (WM γ a mh mn mkd mfg mag mpo mwy mdy mhw mkk mkf mrs mrm mrw mth maw mgr mwa mre (mpl + m) 0 msn mpn mlo mtl mke mim mhi mp0 mtk mki mun msd mbe)) ∨ (ldz (uz (fun t => mrw (100 * mre + t)) (mrm mre)) mpl m.toNat < m.toNat ∧ r_ = 0 ∧ w_ = (WM γ a mh mn mkd mfg mag mpo mwy mdy mhw mkk mkf mrs mrm mrw mth maw mgr mwa mre (mpl + (ldz (uz (fun t => mrw (100 * mre + t)) (mrm mre)) mpl m.toNat : Int)) 1 msn mpn mlo mtl mke mim mhi mp0 mtk mki mun msd mbe))) 0 0 := by
  refine MI.of (cc := cX12_readDigits) (maxL := 4) (rt := .int) RX12 rfl (by decide +kernel) rfl (Nat.le_of_ble_eq_true rfl) ?_
  intro X C hγ hl hnm hret
  subst hγ
  have hMn := WFm.n hM
  show Wx X 0 0 (WM X.γ a mh mn mkd mfg mag mpo mwy mdy mhw mkk mkf mrs mrm mrw mth maw mgr mwa mre mpl 0 msn mpn mlo mtl mke mim mhi mp0 mtk mki mun msd mbe) 0 [(0, .ref (a 0)), (1, .int (iN (m)))] []
  refine x_iconst (v := 0) C dX12_readDigits_0 ?_
  refine x_istore_n C [(2, .int (iN (0))), (0, .ref (a 0)), (1, .int (iN (m)))] rfl (by decide) rfl dX12_readDigits_1 ?_
  refine x_iconst (v := 0) C dX12_readDigits_2 ?_
  refine x_istore_n C [(3, .int (iN (0))), (2, .int (iN (0))), (0, .ref (a 0)), (1, .int (iN (m)))] rfl (by decide) rfl dX12_readDigits_3 ?_
  have LP4 : ∀ (f : Nat) (k : Nat) (IB : Int) (PL : Int) (v3_4 : Int) (v2_4 : Int), (m.toNat - k < f) → (k ≤ m.toNat) → (rdI (uz (fun t => mrw (100 * mre + t)) (mrm mre)) mpl m.toNat k IB PL v2_4) → (((k : Int)) = v3_4) → Wx X 0 0 (WM X.γ a mh mn mkd mfg mag mpo mwy mdy mhw mkk mkf mrs mrm mrw mth maw mgr mwa mre PL IB msn mpn mlo mtl mke mim mhi mp0 mtk mki mun msd mbe) 4 [(3, .int (iN (v3_4))), (2, .int (iN (v2_4))), (0, .ref (a 0)), (1, .int (iN (m)))] [] := by
    intro f
    induction f with
    | zero => intro k IB PL v3_4 v2_4 hf; exact absurd hf (Nat.not_lt_zero _)
    | succ f ih4 =>
      intro k IB PL v3_4 v2_4 hf hk hI e3_4
      subst e3_4
      have hbI := rdI_b hk hI
      refine x_iload_n C 0 rfl rfl dX12_readDigits_4 ?_
      refine x_iload_n C 3 rfl rfl dX12_readDigits_5 ?_
      refine x_icmp_ge C 93 (by decide) (by omega) dX12_readDigits_6 (fun c_6 => ?_) (fun c_6 => ?_)
      · refine x_iload_n C 1 rfl rfl dX12_readDigits_93 ?_
        exact hret _ _ _ _ dX12_readDigits_94 rfl (by rcases rdI_end (show k = m.toNat by omega) hI with ⟨h1, h2, h3, h4⟩ | ⟨h1, h2, h3, h4⟩; exact Or.inl ⟨h1, h4, by rw [h2, h3, show ((m.toNat : Nat) : Int) = m by omega]⟩; exact Or.inr ⟨h1, h4, by rw [h2, h3]⟩)
      · refine x_aload_n C 2 rfl rfl dX12_readDigits_9 ?_
        refine x_aload_n C 2 rfl rfl dX12_readDigits_10 ?_
        refine x_get C in_X12_readDigits_X12 0 rfl rfl 20 (by decide) (List.mem_of_getElem? (i := 1) rfl) rfl (v := .int (iN (IB))) rfl dX12_readDigits_11 ?_
        have LP39 : ∀ (s0_39 : Int), (s0_39 = (if IB = 0 ∧ 48 ≤ (uz (fun t => mrw (100 * mre + t)) (mrm mre)) PL ∧ (uz (fun t => mrw (100 * mre + t)) (mrm mre)) PL ≤ 57 then 0 else 1)) → Wx X 0 0 (WM X.γ a mh mn mkd mfg mag mpo mwy mdy mhw mkk mkf mrs mrm mrw mth maw mgr mwa mre PL IB msn mpn mlo mtl mke mim mhi mp0 mtk mki mun msd mbe) 39 [(3, .int (iN ((k : Int)))), (2, .int (iN (v2_4))), (0, .ref (a 0)), (1, .int (iN (m)))] [.int (iN (s0_39)), .ref (a 0)] := by
          intro s0_39 es0_39
          refine x_put C in_X12_readDigits_X12 tyX12 tyX12_ok nmX12 0 rfl rfl 20 (by decide) (List.mem_of_getElem? (i := 1) rfl) rfl rfl rfl (nar_z (by omega)) (fits_z (by omega)) (Nat.le_of_ble_eq_true rfl) (WM X.γ a mh mn mkd mfg mag mpo mwy mdy mhw mkk mkf mrs mrm mrw mth maw mgr mwa mre PL s0_39 msn mpn mlo mtl mke mim mhi mp0 mtk mki mun msd mbe) rfl dX12_readDigits_39 ?_
          refine x_aload_n C 2 rfl rfl dX12_readDigits_42 ?_
          refine x_get C in_X12_readDigits_X12 0 rfl rfl 20 (by decide) (List.mem_of_getElem? (i := 1) rfl) rfl (v := .int (iN (s0_39))) rfl dX12_readDigits_43 ?_
          have LP65 : ∀ (s0_65 : Int), (s0_65 = (if s0_39 = 0 then 10 * v2_4 + (uz (fun t => mrw (100 * mre + t)) (mrm mre)) PL - 48 else 0)) → Wx X 0 0 (WM X.γ a mh mn mkd mfg mag mpo mwy mdy mhw mkk mkf mrs mrm mrw mth maw mgr mwa mre PL s0_39 msn mpn mlo mtl mke mim mhi mp0 mtk mki mun msd mbe) 65 [(3, .int (iN ((k : Int)))), (2, .int (iN (v2_4))), (0, .ref (a 0)), (1, .int (iN (m)))] [.int (iN (s0_65))] := by
            intro s0_65 es0_65
            refine x_istore_n C [(2, .int (iN (s0_65))), (3, .int (iN ((k : Int)))), (0, .ref (a 0)), (1, .int (iN (m)))] rfl (by decide) rfl dX12_readDigits_65 ?_
            refine x_aload_n C 2 rfl rfl dX12_readDigits_66 ?_
            refine x_dup C rfl dX12_readDigits_67 ?_
            refine x_get C in_X12_readDigits_X12 0 rfl rfl 19 (by decide) (List.mem_of_getElem? (i := 4) rfl) rfl (v := .int (iN (PL))) rfl dX12_readDigits_68 ?_
            refine x_aload_n C 2 rfl rfl dX12_readDigits_71 ?_
            refine x_get C in_X12_readDigits_X12 0 rfl rfl 20 (by decide) (List.mem_of_getElem? (i := 1) rfl) rfl (v := .int (iN (s0_39))) rfl dX12_readDigits_72 ?_
            have LP83 : ∀ (s0_83 : Int), (s0_83 = (if s0_39 = 0 then 1 else 0)) → Wx X 0 0 (WM X.γ a mh mn mkd mfg mag mpo mwy mdy mhw mkk mkf mrs mrm mrw mth maw mgr mwa mre PL s0_39 msn mpn mlo mtl mke mim mhi mp0 mtk mki mun msd mbe) 83 [(2, .int (iN (s0_65))), (3, .int (iN ((k : Int)))), (0, .ref (a 0)), (1, .int (iN (m)))] [.int (iN (s0_83)), .int (iN (PL)), .ref (a 0)] := by
              intro s0_83 es0_83
              refine x_iadd C dX12_readDigits_83 ?_
              refine x_put C in_X12_readDigits_X12 tyX12 tyX12_ok nmX12 0 rfl rfl 19 (by decide) (List.mem_of_getElem? (i := 4) rfl) rfl rfl rfl rfl rfl (Nat.le_of_ble_eq_true rfl) (WM X.γ a mh mn mkd mfg mag mpo mwy mdy mhw mkk mkf mrs mrm mrw mth maw mgr mwa mre (PL + s0_83) s0_39 msn mpn mlo mtl mke mim mhi mp0 mtk mki mun msd mbe) rfl dX12_readDigits_84 ?_
              refine x_iinc C 1 [(3, .int (iN ((k : Int) + 1))), (2, .int (iN (s0_65))), (0, .ref (a 0)), (1, .int (iN (m)))] rfl rfl (by decide) rfl dX12_readDigits_87 ?_
              refine x_goto C 4 (by decide) dX12_readDigits_90 ?_
              exact ih4 (k + 1) (s0_39) (PL + s0_83) _ _ (by omega) (by omega) (rdI_s (by omega) hI es0_39 es0_65 es0_83) (by omega)
            refine x_if_eq C 82 (by decide) (by omega) dX12_readDigits_75 (fun c_75 => ?_) (fun c_75 => ?_)
            · refine x_iconst (v := 0) C dX12_readDigits_82 ?_
              exact LP83 _ (by omega)
            · refine x_iconst (v := 0) C dX12_readDigits_78 ?_
              refine x_goto C 83 (by decide) dX12_readDigits_79 ?_
              exact LP83 _ (by omega)
          refine x_if_eq C 53 (by decide) (by omega) dX12_readDigits_46 (fun c_46 => ?_) (fun c_46 => ?_)
          · refine x_bipush C (10) (by decide) dX12_readDigits_53 ?_
            refine x_iload_n C 1 rfl rfl dX12_readDigits_55 ?_
            refine x_imul C dX12_readDigits_56 ?_
            refine x_aload_n C 2 rfl rfl dX12_readDigits_57 ?_
            refine x_V_I C (As := []) (rest := [.int (iN (10 * v2_4))]) 0 0 rfl rfl gX12_readDigits_X12_here rfl (c_X12_here _ _ a mh mn mkd mfg mag mpo mwy mdy mhw mkk mkf mrs mrm mrw mth maw mgr mwa mre PL s0_39 msn mpn mlo mtl mke mim mhi mp0 mtk mki mun msd mbe hM (by omega) (by omega)) rfl ok_X12_here rfl rfl rfl rfl dX12_readDigits_58 (fun r w1 hp => ?_)
            obtain ⟨qb202, rfl⟩ := hp
            obtain ⟨hb202, zb202⟩ : ∃ z : Int, z = r := ⟨r, rfl⟩
            rw [← zb202]
            have ub202 := here_u (v := (fun t => mrw (100 * mre + t))) (sz := mrm mre) (p := PL) (by omega) (zb202.trans qb202)
            have vb202 := uz_b (v := (fun t => mrw (100 * mre + t))) (sz := mrm mre) (i := PL) (WFm.rw hM _)
            show Wx X 0 0 (WM X.γ a mh mn mkd mfg mag mpo mwy mdy mhw mkk mkf mrs mrm mrw mth maw mgr mwa mre PL s0_39 msn mpn mlo mtl mke mim mhi mp0 mtk mki mun msd mbe) 61 [(3, .int (iN ((k : Int)))), (2, .int (iN (v2_4))), (0, .ref (a 0)), (1, .int (iN (m)))] [.int (iN (hb202)), .int (iN (10 * v2_4))]
            refine x_iadd C dX12_readDigits_61 ?_
            refine x_bipush C (48) (by decide) dX12_readDigits_62 ?_
            refine x_isub C dX12_readDigits_64 ?_
            exact LP65 _ (by omega)
          · refine x_iconst (v := 0) C dX12_readDigits_49 ?_
            refine x_goto C 65 (by decide) dX12_readDigits_50 ?_
            exact LP65 _ (by omega)
        refine x_if_ne C 34 (by decide) (by omega) dX12_readDigits_14 (fun c_14 => ?_) (fun c_14 => ?_)
        · refine x_iconst (v := 0) C dX12_readDigits_34 ?_
          refine x_goto C 39 (by decide) dX12_readDigits_35 ?_
          exact LP39 _ (by omega)
        · refine x_aload_n C 2 rfl rfl dX12_readDigits_17 ?_
          refine x_V_I C (As := []) (rest := [.ref (a 0)]) 0 0 rfl rfl gX12_readDigits_X12_here rfl (c_X12_here _ _ a mh mn mkd mfg mag mpo mwy mdy mhw mkk mkf mrs mrm mrw mth maw mgr mwa mre PL IB msn mpn mlo mtl mke mim mhi mp0 mtk mki mun msd mbe hM (by omega) (by omega)) rfl ok_X12_here rfl rfl rfl rfl dX12_readDigits_18 (fun r w1 hp => ?_)
          obtain ⟨qb203, rfl⟩ := hp
          obtain ⟨hb203, zb203⟩ : ∃ z : Int, z = r := ⟨r, rfl⟩
          rw [← zb203]
          have ub203 := here_u (v := (fun t => mrw (100 * mre + t))) (sz := mrm mre) (p := PL) (by omega) (zb203.trans qb203)
          have vb203 := uz_b (v := (fun t => mrw (100 * mre + t))) (sz := mrm mre) (i := PL) (WFm.rw hM _)
          show Wx X 0 0 (WM X.γ a mh mn mkd mfg mag mpo mwy mdy mhw mkk mkf mrs mrm mrw mth maw mgr mwa mre PL IB msn mpn mlo mtl mke mim mhi mp0 mtk mki mun msd mbe) 21 [(3, .int (iN ((k : Int)))), (2, .int (iN (v2_4))), (0, .ref (a 0)), (1, .int (iN (m)))] [.int (iN (hb203)), .ref (a 0)]
          refine x_i2l C (by omega) dX12_readDigits_21 ?_
          refine x_ldc2 C (48) (List.mem_of_getElem? (i := 2) rfl) (by decide) dX12_readDigits_22 ?_
          refine x_ldc2 C (57) (List.mem_of_getElem? (i := 3) rfl) (by decide) dX12_readDigits_25 ?_
          refine x_S_I C (As := [.long (jN (hb203)), .long (jN (48)), .long (jN (57))]) (rest := [.ref (a 0)]) 3 gX12_readDigits_X12_in (c_X12_in _ _ (WM X.γ a mh mn mkd mfg mag mpo mwy mdy mhw mkk mkf mrs mrm mrw mth maw mgr mwa mre PL IB msn mpn mlo mtl mke mim mhi mp0 mtk mki mun msd mbe) (hb203) (48) (57) (by omega) (by omega) (by omega)) rfl ok_X12_in rfl rfl rfl rfl dX12_readDigits_28 (fun r w1 hp => ?_)
          obtain ⟨rfl, rfl⟩ := hp
          refine x_ifne_bz C 38 (by decide) dX12_readDigits_31 (fun c_31 => ?_) (fun c_31 => ?_)
          · refine x_iconst (v := 0) C dX12_readDigits_38 ?_
            exact LP39 _ (by omega)
          · refine x_iconst (v := 0) C dX12_readDigits_34 ?_
            refine x_goto C 39 (by decide) dX12_readDigits_35 ?_
            exact LP39 _ (by omega)
  exact LP4 ((m.toNat - (0)) + 1) (0) (0) (mpl) _ _ (by omega) (by omega) (rdI_0 _ _ _) (by omega)
set_option maxRecDepth 100000 in
set_option maxHeartbeats 400000 in
theorem c_X12_readDigits_1 (l : Launch) (γ : GX) (a : Nat → Nat) (mh : Int → Int) (mn : Int) (mkd : Int → Int) (mfg : Int → Int) (mag : Int → Int) (mpo : Int → Int) (mwy : Int → Int) (mdy : Int) (mhw : Int → Int) (mkk : Int → Int) (mkf : Int → Int) (mrs : Int → Int) (mrm : Int → Int) (mrw : Int → Int) (mth : Int) (maw : Int) (mgr : Int → Int) (mwa : Int → Int) (mre : Int) (mpl : Int) (msn : Int) (mpn : Int → Int) (mlo : Int → Int) (mtl : Int → Int) (mke : Int → Int) (mim : Int → Int) (mhi : Int) (mp0 : Int) (mtk : Int) (mki : Value) (mun : Int → Int) (msd : Int) (mbe : Int → Int) (hM : WFm mn mh mkd mfg mag mpo mwy mhw mkk mkf mrs mrm mrw) (m : Int) (h0_ : 0 ≤ m ∧ m ≤ 7) (h1_ : 0 ≤ mre ∧ mre ≤ 7) (h2_ : 0 ≤ mpl ∧ mpl ≤ 200) : MI l γ yX12_readDigits wsX12_readDigits rmX12_readDigits [.ref (a 0), .int (iN (m))] (WM γ a mh mn mkd mfg mag mpo mwy mdy mhw mkk mkf mrs mrm mrw mth maw mgr mwa mre mpl 1 msn mpn mlo mtl mke mim mhi mp0 mtk mki mun msd mbe) (fun r_ w_ => r_ = 0 ∧ w_ = (WM γ a mh mn mkd mfg mag mpo mwy mdy mhw mkk mkf mrs mrm mrw mth maw mgr mwa mre mpl 1 msn mpn mlo mtl mke mim mhi mp0 mtk mki mun msd mbe)) 0 0 := by
  refine MI.of (cc := cX12_readDigits) (maxL := 4) (rt := .int) RX12 rfl (by decide +kernel) rfl (Nat.le_of_ble_eq_true rfl) ?_
  intro X C hγ hl hnm hret
  subst hγ
  have hMn := WFm.n hM
  show Wx X 0 0 (WM X.γ a mh mn mkd mfg mag mpo mwy mdy mhw mkk mkf mrs mrm mrw mth maw mgr mwa mre mpl 1 msn mpn mlo mtl mke mim mhi mp0 mtk mki mun msd mbe) 0 [(0, .ref (a 0)), (1, .int (iN (m)))] []
  refine x_iconst (v := 0) C dX12_readDigits_0 ?_
  refine x_istore_n C [(2, .int (iN (0))), (0, .ref (a 0)), (1, .int (iN (m)))] rfl (by decide) rfl dX12_readDigits_1 ?_
  refine x_iconst (v := 0) C dX12_readDigits_2 ?_
  refine x_istore_n C [(3, .int (iN (0))), (2, .int (iN (0))), (0, .ref (a 0)), (1, .int (iN (m)))] rfl (by decide) rfl dX12_readDigits_3 ?_
  have LP4 : ∀ (f : Nat) (k : Nat) (v3_4 : Int), (m.toNat - k < f) → (k ≤ m.toNat) → (((k : Int)) = v3_4) → Wx X 0 0 (WM X.γ a mh mn mkd mfg mag mpo mwy mdy mhw mkk mkf mrs mrm mrw mth maw mgr mwa mre mpl 1 msn mpn mlo mtl mke mim mhi mp0 mtk mki mun msd mbe) 4 [(3, .int (iN (v3_4))), (2, .int (iN (0))), (0, .ref (a 0)), (1, .int (iN (m)))] [] := by
    intro f
    induction f with
    | zero => intro k v3_4 hf; exact absurd hf (Nat.not_lt_zero _)
    | succ f ih4 =>
      intro k v3_4 hf hk e3_4
      subst e3_4
      refine x_iload_n C 0 rfl rfl dX12_readDigits_4 ?_
      refine x_iload_n C 3 rfl rfl dX12_readDigits_5 ?_
      refine x_icmp_ge C 93 (by decide) (by omega) dX12_readDigits_6 (fun c_6 => ?_) (fun c_6 => ?_)
      · refine x_iload_n C 1 rfl rfl dX12_readDigits_93 ?_
        exact hret _ _ _ _ dX12_readDigits_94 rfl ⟨rfl, rfl⟩
      · refine x_aload_n C 2 rfl rfl dX12_readDigits_9 ?_
        refine x_aload_n C 2 rfl rfl dX12_readDigits_10 ?_
        refine x_get C in_X12_readDigits_X12 0 rfl rfl 20 (by decide) (List.mem_of_getElem? (i := 1) rfl) rfl (v := .int (iN (1))) rfl dX12_readDigits_11 ?_
        refine x_if_ne C 34 (by decide) (by decide) dX12_readDigits_14 (fun _ => ?_) (fun z => absurd z (by decide))
        refine x_iconst (v := 0) C dX12_readDigits_34 ?_
        refine x_goto C 39 (by decide) dX12_readDigits_35 ?_
        refine x_put C in_X12_readDigits_X12 tyX12 tyX12_ok nmX12 0 rfl rfl 20 (by decide) (List.mem_of_getElem? (i := 1) rfl) rfl rfl rfl (nar_z (by decide)) (fits_z (by decide)) (Nat.le_of_ble_eq_true rfl) (WM X.γ a mh mn mkd mfg mag mpo mwy mdy mhw mkk mkf mrs mrm mrw mth maw mgr mwa mre mpl 1 msn mpn mlo mtl mke mim mhi mp0 mtk mki mun msd mbe) rfl dX12_readDigits_39 ?_
        refine x_aload_n C 2 rfl rfl dX12_readDigits_42 ?_
        refine x_get C in_X12_readDigits_X12 0 rfl rfl 20 (by decide) (List.mem_of_getElem? (i := 1) rfl) rfl (v := .int (iN (1))) rfl dX12_readDigits_43 ?_
        refine x_if_eq C 53 (by decide) (by decide) dX12_readDigits_46 (fun z => absurd z (by decide)) (fun _ => ?_)
        refine x_iconst (v := 0) C dX12_readDigits_49 ?_
        refine x_goto C 65 (by decide) dX12_readDigits_50 ?_
        refine x_istore_n C [(2, .int (iN (0))), (3, .int (iN ((k : Int)))), (0, .ref (a 0)), (1, .int (iN (m)))] rfl (by decide) rfl dX12_readDigits_65 ?_
        refine x_aload_n C 2 rfl rfl dX12_readDigits_66 ?_
        refine x_dup C rfl dX12_readDigits_67 ?_
        refine x_get C in_X12_readDigits_X12 0 rfl rfl 19 (by decide) (List.mem_of_getElem? (i := 4) rfl) rfl (v := .int (iN (mpl))) rfl dX12_readDigits_68 ?_
        refine x_aload_n C 2 rfl rfl dX12_readDigits_71 ?_
        refine x_get C in_X12_readDigits_X12 0 rfl rfl 20 (by decide) (List.mem_of_getElem? (i := 1) rfl) rfl (v := .int (iN (1))) rfl dX12_readDigits_72 ?_
        refine x_if_eq C 82 (by decide) (by decide) dX12_readDigits_75 (fun z => absurd z (by decide)) (fun _ => ?_)
        refine x_iconst (v := 0) C dX12_readDigits_78 ?_
        refine x_goto C 83 (by decide) dX12_readDigits_79 ?_
        refine x_iadd C dX12_readDigits_83 ?_
        refine x_put C in_X12_readDigits_X12 tyX12 tyX12_ok nmX12 0 rfl rfl 19 (by decide) (List.mem_of_getElem? (i := 4) rfl) rfl rfl rfl rfl rfl (Nat.le_of_ble_eq_true rfl) (WM X.γ a mh mn mkd mfg mag mpo mwy mdy mhw mkk mkf mrs mrm mrw mth maw mgr mwa mre (mpl + 0) 1 msn mpn mlo mtl mke mim mhi mp0 mtk mki mun msd mbe) rfl dX12_readDigits_84 ?_
        refine x_iinc C 1 [(3, .int (iN ((k : Int) + 1))), (2, .int (iN (0))), (0, .ref (a 0)), (1, .int (iN (m)))] rfl rfl (by decide) rfl dX12_readDigits_87 ?_
        refine x_goto C 4 (by decide) dX12_readDigits_90 ?_
        refine Wx.eqW (ws' := (WM X.γ a mh mn mkd mfg mag mpo mwy mdy mhw mkk mkf mrs mrm mrw mth maw mgr mwa mre mpl 1 msn mpn mlo mtl mke mim mhi mp0 mtk mki mun msd mbe)) (by rw [show mpl + 0 = mpl by omega]) ?_
        exact ih4 (k + 1) _ (by omega) (by omega) (by omega)
  exact LP4 ((m.toNat - (0)) + 1) (0) _ (by omega) (by omega) (by omega)
end HREAab
