section HREAac
theorem in_X12_readNumbers_X12 : ∀ w ∈ u_ws RX12 TX12 34, w ∈ wsX12_readNumbers := by decide +kernel
theorem ok_X12_readNumbers : okY yX12_readNumbers 2 := by decide +kernel
def rmX12_readNumbers : Room := { frames := 2, cells := 0, slots := 0, locals := 48 }
set_option maxRecDepth 100000 in
set_option maxHeartbeats 400000 in
theorem c_X12_readNumbers (l : Launch) (γ : GX) (a : Nat → Nat) (mh : Int → Int) (mn : Int) (mkd : Int → Int) (mfg : Int → Int) (mag : Int → Int) (mpo : Int → Int) (mwy : Int → Int) (mdy : Int) (mhw : Int → Int) (mkk : Int → Int) (mkf : Int → Int) (mrs : Int → Int) (mrm : Int → Int) (mrw : Int → Int) (mth : Int) (maw : Int) (mgr : Int → Int) (mwa : Int → Int) (mre : Int) (mpl : Int) (msn : Int) (mpn : Int → Int) (mlo : Int → Int) (mtl : Int → Int) (mke : Int → Int) (mim : Int → Int) (mhi : Int) (mp0 : Int) (mtk : Int) (mki : Value) (mun : Int → Int) (msd : Int) (mbe : Int → Int) (hM : WFm mn mh mkd mfg mag mpo mwy mhw mkk mkf mrs mrm mrw) (c : Int) (i : Int) (h0_ : 0 ≤ i ∧ i ≤ 190) (h1_ : 0 ≤ mre ∧ mre ≤ 7) (h2_ : 0 ≤ mpl ∧ mpl ≤ 190) (h3_ : c = 103 ∨ c = 119 ∨ c = 109 ∨ c = 121 ∨ c = 100) : MV l γ yX12_readNumbers wsX12_readNumbers rmX12_readNumbers [.ref (a 0), .int (iN (c)), .int (iN (i))] (WM γ a mh mn mkd mfg mag mpo mwy mdy mhw mkk mkf mrs mrm mrw mth maw mgr mwa mre mpl 0 msn mpn mlo mtl mke mim mhi mp0 mtk mki mun msd mbe) (fun w_ => (ldz (uz (fun t => mrw (100 * mre + t)) (mrm mre)) mpl (dgz c).toNat = (dgz c).toNat ∧ ∃ TL, (∀ j : Int, j < i → TL j = mtl j) ∧ tldI (uz (fun t => mrw (100 * mre + t)) (mrm mre)) c mpl TL i ∧ w_ = (WM γ a mh mn mkd mfg mag mpo mwy mdy mhw mkk mkf mrs mrm mrw mth maw mgr mwa mre (mpl + dgz c) 0 msn mpn mlo TL mke mim mhi mp0 mtk mki mun msd mbe)) ∨ (ldz (uz (fun t => mrw (100 * mre + t)) (mrm mre)) mpl (dgz c).toNat < (dgz c).toNat ∧ ∃ TL, w_ = (WM γ a mh mn mkd mfg mag mpo mwy mdy mhw mkk mkf mrs mrm mrw mth maw mgr mwa mre (mpl + (ldz (uz (fun t => mrw (100 * mre + t)) (mrm mre)) mpl (dgz c).toNat : Int)) 1 msn mpn mlo TL mke mim mhi mp0 mtk mki mun msd mbe))) 0 0 := by
  refine MV.of (cc := cX12_readNumbers) (maxL := 3) RX12 rfl (by decide +kernel) rfl (Nat.le_of_ble_eq_true rfl) ?_
  intro X C hγ hl hnm hret
  subst hγ
  have hMn := WFm.n hM
  show Wx X 0 0 (WM X.γ a mh mn mkd mfg mag mpo mwy mdy mhw mkk mkf mrs mrm mrw mth maw mgr mwa mre mpl 0 msn mpn mlo mtl mke mim mhi mp0 mtk mki mun msd mbe) 0 [(0, .ref (a 0)), (1, .int (iN (c))), (2, .int (iN (i)))] []
  rcases h3_ with rfl | rfl | rfl | rfl | rfl
  · show Wx X 0 0 (WM X.γ a mh mn mkd mfg mag mpo mwy mdy mhw mkk mkf mrs mrm mrw mth maw mgr mwa mre mpl 0 msn mpn mlo mtl mke mim mhi mp0 mtk mki mun msd mbe) 0 [(0, .ref (a 0)), (1, .int (iN (103))), (2, .int (iN (i)))] []
    refine x_aload_n C 0 rfl rfl dX12_readNumbers_0 ?_
    refine x_get C in_X12_readNumbers_X12 0 rfl rfl 24 (by decide) (List.mem_of_getElem? (i := 1) rfl) rfl (v := .ref (a 17)) rfl dX12_readNumbers_1 ?_
    refine x_iload_n C 2 rfl rfl dX12_readNumbers_4 ?_
    refine x_aload_n C 0 rfl rfl dX12_readNumbers_5 ?_
    refine x_iload_n C 1 rfl rfl dX12_readNumbers_6 ?_
    refine x_bipush C (103) (by decide) dX12_readNumbers_7 ?_
    refine x_icmp_eq C 18 (by decide) (by decide) dX12_readNumbers_9 (fun _ => ?_) (fun z => absurd z (by decide))
    refine x_iconst (v := 0) C dX12_readNumbers_18 ?_
    refine x_goto C 23 (by decide) dX12_readNumbers_19 ?_
    refine x_V_I C (As := [.int (iN (2))]) (rest := [.int (iN (i)), .ref (a 17)]) 1 0 rfl rfl gX12_readNumbers_X12_readDigits rfl (c_X12_readDigits_0 _ _ a mh mn mkd mfg mag mpo mwy mdy mhw mkk mkf mrs mrm mrw mth maw mgr mwa mre mpl msn mpn mlo mtl mke mim mhi mp0 mtk mki mun msd mbe hM (2) (by omega) (by omega) (by omega)) rfl ok_X12_readDigits rfl rfl rfl rfl dX12_readNumbers_23 (fun r w1 hp => ?_)
    rcases hp with ⟨gb204, rfl, rfl⟩ | ⟨gb204, rfl, rfl⟩
    · have gb204 : ldz (uz (fun t => mrw (100 * mre + t)) (mrm mre)) mpl 2 = 2 := gb204
      refine x_iastore C (f := mtl) 17 rfl (by omega) rfl (WM X.γ a mh mn mkd mfg mag mpo mwy mdy mhw mkk mkf mrs mrm mrw mth maw mgr mwa mre (mpl + 2) 0 msn mpn mlo (upz mtl i (numz (uz (fun t => mrw (100 * mre + t)) (mrm mre)) mpl 2)) mke mim mhi mp0 mtk mki mun msd mbe) rfl dX12_readNumbers_26 ?_
      refine x_iload_n C 1 rfl rfl dX12_readNumbers_27 ?_
      refine x_bipush C (119) (by decide) dX12_readNumbers_28 ?_
      refine x_icmp_ne C 75 (by decide) (by decide) dX12_readNumbers_30 (fun _ => ?_) (fun z => absurd z (by decide))
      refine x_iload_n C 1 rfl rfl dX12_readNumbers_75 ?_
      refine x_bipush C (103) (by decide) dX12_readNumbers_76 ?_
      refine x_icmp_eq C 87 (by decide) (by decide) dX12_readNumbers_78 (fun _ => ?_) (fun z => absurd z (by decide))
      refine x_aload_n C 0 rfl rfl dX12_readNumbers_87 ?_
      refine x_get C in_X12_readNumbers_X12 0 rfl rfl 24 (by decide) (List.mem_of_getElem? (i := 1) rfl) rfl (v := .ref (a 17)) rfl dX12_readNumbers_88 ?_
      refine x_iload_n C 2 rfl rfl dX12_readNumbers_91 ?_
      refine x_iconst (v := 0) C dX12_readNumbers_92 ?_
      refine x_iadd C dX12_readNumbers_93 ?_
      refine x_aload_n C 0 rfl rfl dX12_readNumbers_94 ?_
      refine x_iconst (v := 0) C dX12_readNumbers_95 ?_
      refine x_V_I C (As := [.int (iN (2))]) (rest := [.int (iN (i + 1)), .ref (a 17)]) 1 0 rfl rfl gX12_readNumbers_X12_readDigits rfl (c_X12_readDigits_0 _ _ a mh mn mkd mfg mag mpo mwy mdy mhw mkk mkf mrs mrm mrw mth maw mgr mwa mre (mpl + 2) msn mpn mlo (upz mtl i (numz (uz (fun t => mrw (100 * mre + t)) (mrm mre)) mpl 2)) mke mim mhi mp0 mtk mki mun msd mbe hM (2) (by omega) (by omega) (by omega)) rfl ok_X12_readDigits rfl rfl rfl rfl dX12_readNumbers_96 (fun r w1 hp => ?_)
      rcases hp with ⟨gb205, rfl, rfl⟩ | ⟨gb205, rfl, rfl⟩
      · have gb205 : ldz (uz (fun t => mrw (100 * mre + t)) (mrm mre)) (mpl + 2) 2 = 2 := gb205
        refine Wx.eqW (ws' := (WM X.γ a mh mn mkd mfg mag mpo mwy mdy mhw mkk mkf mrs mrm mrw mth maw mgr mwa mre (mpl + 4) 0 msn mpn mlo (upz mtl i (numz (uz (fun t => mrw (100 * mre + t)) (mrm mre)) mpl 2)) mke mim mhi mp0 mtk mki mun msd mbe)) (by rw [show mpl + 4 = mpl + 2 + 2 by omega]) ?_
        refine x_iastore C (f := (upz mtl i (numz (uz (fun t => mrw (100 * mre + t)) (mrm mre)) mpl 2))) 17 rfl (by omega) rfl (WM X.γ a mh mn mkd mfg mag mpo mwy mdy mhw mkk mkf mrs mrm mrw mth maw mgr mwa mre (mpl + 4) 0 msn mpn mlo (upz (upz mtl i (numz (uz (fun t => mrw (100 * mre + t)) (mrm mre)) mpl 2)) (i + 1) (numz (uz (fun t => mrw (100 * mre + t)) (mrm mre)) (mpl + 2) 2)) mke mim mhi mp0 mtk mki mun msd mbe) rfl dX12_readNumbers_99 ?_
        refine x_goto C 122 (by decide) dX12_readNumbers_100 ?_
        exact hret _ _ _ dX12_readNumbers_122 (Or.inl (by have hT : ldz (uz (fun t => mrw (100 * mre + t)) (mrm mre)) mpl 4 = 2 + (2) := (show ldz (uz (fun t => mrw (100 * mre + t)) (mrm mre)) mpl 4 = 2 + (2) from (ldz_go2 (q := (mpl + 2)) 2 (by omega) gb204).trans (by rw [(show ldz (uz (fun t => mrw (100 * mre + t)) (mrm mre)) (mpl + 2) 2 = 2 from gb205)])); exact ⟨hT, (upz (upz mtl i (numz (uz (fun t => mrw (100 * mre + t)) (mrm mre)) mpl 2)) (i + 1) (numz (uz (fun t => mrw (100 * mre + t)) (mrm mre)) (mpl + 2) 2)), fun j hj => by rw [upz_n (by omega), upz_n (by omega)], ⟨by rw [upz_n (by omega), upz_s]; rfl, fun _ => by rw [upz_s]; rfl, fun z => absurd z (by decide)⟩, rfl⟩))
      · have gb205 : ldz (uz (fun t => mrw (100 * mre + t)) (mrm mre)) (mpl + 2) 2 < 2 := gb205
        refine x_iastore C (f := (upz mtl i (numz (uz (fun t => mrw (100 * mre + t)) (mrm mre)) mpl 2))) 17 rfl (by omega) rfl (WM X.γ a mh mn mkd mfg mag mpo mwy mdy mhw mkk mkf mrs mrm mrw mth maw mgr mwa mre (mpl + 2 + (ldz (uz (fun t => mrw (100 * mre + t)) (mrm mre)) (mpl + 2) 2 : Int)) 1 msn mpn mlo (upz (upz mtl i (numz (uz (fun t => mrw (100 * mre + t)) (mrm mre)) mpl 2)) (i + 1) 0) mke mim mhi mp0 mtk mki mun msd mbe) rfl dX12_readNumbers_99 ?_
        refine x_goto C 122 (by decide) dX12_readNumbers_100 ?_
        exact hret _ _ _ dX12_readNumbers_122 (Or.inr (by have hT : ldz (uz (fun t => mrw (100 * mre + t)) (mrm mre)) mpl 4 = 2 + (ldz (uz (fun t => mrw (100 * mre + t)) (mrm mre)) (mpl + 2) 2) := (show ldz (uz (fun t => mrw (100 * mre + t)) (mrm mre)) mpl 4 = 2 + (ldz (uz (fun t => mrw (100 * mre + t)) (mrm mre)) (mpl + 2) 2) from (ldz_go2 (q := (mpl + 2)) 2 (by omega) gb204).trans (by rw [(show ldz (uz (fun t => mrw (100 * mre + t)) (mrm mre)) (mpl + 2) 2 = ldz (uz (fun t => mrw (100 * mre + t)) (mrm mre)) (mpl + 2) 2 from rfl)])); refine ⟨show ldz (uz (fun t => mrw (100 * mre + t)) (mrm mre)) mpl 4 < 4 from (by have := gb205; omega), (upz (upz mtl i (numz (uz (fun t => mrw (100 * mre + t)) (mrm mre)) mpl 2)) (i + 1) 0), ?_⟩; show _ = (WM X.γ a mh mn mkd mfg mag mpo mwy mdy mhw mkk mkf mrs mrm mrw mth maw mgr mwa mre (mpl + (ldz (uz (fun t => mrw (100 * mre + t)) (mrm mre)) mpl 4 : Int)) 1 msn mpn mlo (upz (upz mtl i (numz (uz (fun t => mrw (100 * mre + t)) (mrm mre)) mpl 2)) (i + 1) 0) mke mim mhi mp0 mtk mki mun msd mbe); rw [show (mpl + (ldz (uz (fun t => mrw (100 * mre + t)) (mrm mre)) mpl 4 : Int)) = mpl + 2 + (ldz (uz (fun t => mrw (100 * mre + t)) (mrm mre)) (mpl + 2) 2 : Int) from (by omega)]))
    · have gb204 : ldz (uz (fun t => mrw (100 * mre + t)) (mrm mre)) mpl 2 < 2 := gb204
      refine x_iastore C (f := mtl) 17 rfl (by omega) rfl (WM X.γ a mh mn mkd mfg mag mpo mwy mdy mhw mkk mkf mrs mrm mrw mth maw mgr mwa mre (mpl + (ldz (uz (fun t => mrw (100 * mre + t)) (mrm mre)) mpl 2 : Int)) 1 msn mpn mlo (upz mtl i 0) mke mim mhi mp0 mtk mki mun msd mbe) rfl dX12_readNumbers_26 ?_
      refine x_iload_n C 1 rfl rfl dX12_readNumbers_27 ?_
      refine x_bipush C (119) (by decide) dX12_readNumbers_28 ?_
      refine x_icmp_ne C 75 (by decide) (by decide) dX12_readNumbers_30 (fun _ => ?_) (fun z => absurd z (by decide))
      refine x_iload_n C 1 rfl rfl dX12_readNumbers_75 ?_
      refine x_bipush C (103) (by decide) dX12_readNumbers_76 ?_
      refine x_icmp_eq C 87 (by decide) (by decide) dX12_readNumbers_78 (fun _ => ?_) (fun z => absurd z (by decide))
      refine x_aload_n C 0 rfl rfl dX12_readNumbers_87 ?_
      refine x_get C in_X12_readNumbers_X12 0 rfl rfl 24 (by decide) (List.mem_of_getElem? (i := 1) rfl) rfl (v := .ref (a 17)) rfl dX12_readNumbers_88 ?_
      refine x_iload_n C 2 rfl rfl dX12_readNumbers_91 ?_
      refine x_iconst (v := 0) C dX12_readNumbers_92 ?_
      refine x_iadd C dX12_readNumbers_93 ?_
      refine x_aload_n C 0 rfl rfl dX12_readNumbers_94 ?_
      refine x_iconst (v := 0) C dX12_readNumbers_95 ?_
      refine x_V_I C (As := [.int (iN (2))]) (rest := [.int (iN (i + 1)), .ref (a 17)]) 1 0 rfl rfl gX12_readNumbers_X12_readDigits rfl (c_X12_readDigits_1 _ _ a mh mn mkd mfg mag mpo mwy mdy mhw mkk mkf mrs mrm mrw mth maw mgr mwa mre (mpl + (ldz (uz (fun t => mrw (100 * mre + t)) (mrm mre)) mpl 2 : Int)) msn mpn mlo (upz mtl i 0) mke mim mhi mp0 mtk mki mun msd mbe hM (2) (by omega) (by omega) (by omega)) rfl ok_X12_readDigits rfl rfl rfl rfl dX12_readNumbers_96 (fun r w1 hp => ?_)
      obtain ⟨rfl, rfl⟩ := hp
      show Wx X 0 0 (WM X.γ a mh mn mkd mfg mag mpo mwy mdy mhw mkk mkf mrs mrm mrw mth maw mgr mwa mre (mpl + (ldz (uz (fun t => mrw (100 * mre + t)) (mrm mre)) mpl 2 : Int)) 1 msn mpn mlo (upz mtl i 0) mke mim mhi mp0 mtk mki mun msd mbe) 99 [(0, .ref (a 0)), (1, .int (iN (103))), (2, .int (iN (i)))] [.int (iN (0)), .int (iN (i + 1)), .ref (a 17)]
      refine x_iastore C (f := (upz mtl i 0)) 17 rfl (by omega) rfl (WM X.γ a mh mn mkd mfg mag mpo mwy mdy mhw mkk mkf mrs mrm mrw mth maw mgr mwa mre (mpl + (ldz (uz (fun t => mrw (100 * mre + t)) (mrm mre)) mpl 2 : Int)) 1 msn mpn mlo (upz (upz mtl i 0) (i + 1) 0) mke mim mhi mp0 mtk mki mun msd mbe) rfl dX12_readNumbers_99 ?_
      refine x_goto C 122 (by decide) dX12_readNumbers_100 ?_
      exact hret _ _ _ dX12_readNumbers_122 (Or.inr (by have hT : ldz (uz (fun t => mrw (100 * mre + t)) (mrm mre)) mpl 4 = ldz (uz (fun t => mrw (100 * mre + t)) (mrm mre)) mpl 2 := (show ldz (uz (fun t => mrw (100 * mre + t)) (mrm mre)) mpl 4 = ldz (uz (fun t => mrw (100 * mre + t)) (mrm mre)) mpl 2 from (ldz_no 2 gb204)); refine ⟨show ldz (uz (fun t => mrw (100 * mre + t)) (mrm mre)) mpl 4 < 4 from (by have := gb204; omega), (upz (upz mtl i 0) (i + 1) 0), ?_⟩; show _ = (WM X.γ a mh mn mkd mfg mag mpo mwy mdy mhw mkk mkf mrs mrm mrw mth maw mgr mwa mre (mpl + (ldz (uz (fun t => mrw (100 * mre + t)) (mrm mre)) mpl 4 : Int)) 1 msn mpn mlo (upz (upz mtl i 0) (i + 1) 0) mke mim mhi mp0 mtk mki mun msd mbe); rw [show (mpl + (ldz (uz (fun t => mrw (100 * mre + t)) (mrm mre)) mpl 4 : Int)) = mpl + (ldz (uz (fun t => mrw (100 * mre + t)) (mrm mre)) mpl 2 : Int) from (by omega)]))
  · show Wx X 0 0 (WM X.γ a mh mn mkd mfg mag mpo mwy mdy mhw mkk mkf mrs mrm mrw mth maw mgr mwa mre mpl 0 msn mpn mlo mtl mke mim mhi mp0 mtk mki mun msd mbe) 0 [(0, .ref (a 0)), (1, .int (iN (119))), (2, .int (iN (i)))] []
    refine x_aload_n C 0 rfl rfl dX12_readNumbers_0 ?_
    refine x_get C in_X12_readNumbers_X12 0 rfl rfl 24 (by decide) (List.mem_of_getElem? (i := 1) rfl) rfl (v := .ref (a 17)) rfl dX12_readNumbers_1 ?_
    refine x_iload_n C 2 rfl rfl dX12_readNumbers_4 ?_
    refine x_aload_n C 0 rfl rfl dX12_readNumbers_5 ?_
    refine x_iload_n C 1 rfl rfl dX12_readNumbers_6 ?_
    refine x_bipush C (103) (by decide) dX12_readNumbers_7 ?_
    refine x_icmp_eq C 18 (by decide) (by decide) dX12_readNumbers_9 (fun z => absurd z (by decide)) (fun _ => ?_)
    refine x_iload_n C 1 rfl rfl dX12_readNumbers_12 ?_
    refine x_bipush C (100) (by decide) dX12_readNumbers_13 ?_
    refine x_icmp_ne C 22 (by decide) (by decide) dX12_readNumbers_15 (fun _ => ?_) (fun z => absurd z (by decide))
    refine x_iconst (v := 0) C dX12_readNumbers_22 ?_
    refine x_V_I C (As := [.int (iN (1))]) (rest := [.int (iN (i)), .ref (a 17)]) 1 0 rfl rfl gX12_readNumbers_X12_readDigits rfl (c_X12_readDigits_0 _ _ a mh mn mkd mfg mag mpo mwy mdy mhw mkk mkf mrs mrm mrw mth maw mgr mwa mre mpl msn mpn mlo mtl mke mim mhi mp0 mtk mki mun msd mbe hM (1) (by omega) (by omega) (by omega)) rfl ok_X12_readDigits rfl rfl rfl rfl dX12_readNumbers_23 (fun r w1 hp => ?_)
    rcases hp with ⟨gb206, rfl, rfl⟩ | ⟨gb206, rfl, rfl⟩
    · have gb206 : ldz (uz (fun t => mrw (100 * mre + t)) (mrm mre)) mpl 1 = 1 := gb206
      refine x_iastore C (f := mtl) 17 rfl (by omega) rfl (WM X.γ a mh mn mkd mfg mag mpo mwy mdy mhw mkk mkf mrs mrm mrw mth maw mgr mwa mre (mpl + 1) 0 msn mpn mlo (upz mtl i (numz (uz (fun t => mrw (100 * mre + t)) (mrm mre)) mpl 1)) mke mim mhi mp0 mtk mki mun msd mbe) rfl dX12_readNumbers_26 ?_
      refine x_iload_n C 1 rfl rfl dX12_readNumbers_27 ?_
      refine x_bipush C (119) (by decide) dX12_readNumbers_28 ?_
      refine x_icmp_ne C 75 (by decide) (by decide) dX12_readNumbers_30 (fun z => absurd z (by decide)) (fun _ => ?_)
      refine x_aload_n C 0 rfl rfl dX12_readNumbers_33 ?_
      refine x_get C in_X12_readNumbers_X12 0 rfl rfl 24 (by decide) (List.mem_of_getElem? (i := 1) rfl) rfl (v := .ref (a 17)) rfl dX12_readNumbers_34 ?_
      refine x_iload_n C 2 rfl rfl dX12_readNumbers_37 ?_
      refine x_iconst (v := 0) C dX12_readNumbers_38 ?_
      refine x_iadd C dX12_readNumbers_39 ?_
      refine x_aload_n C 0 rfl rfl dX12_readNumbers_40 ?_
      refine x_iconst (v := 0) C dX12_readNumbers_41 ?_
      refine x_V_I C (As := [.int (iN (1))]) (rest := [.int (iN (i + 1)), .ref (a 17)]) 1 0 rfl rfl gX12_readNumbers_X12_readDigits rfl (c_X12_readDigits_0 _ _ a mh mn mkd mfg mag mpo mwy mdy mhw mkk mkf mrs mrm mrw mth maw mgr mwa mre (mpl + 1) msn mpn mlo (upz mtl i (numz (uz (fun t => mrw (100 * mre + t)) (mrm mre)) mpl 1)) mke mim mhi mp0 mtk mki mun msd mbe hM (1) (by omega) (by omega) (by omega)) rfl ok_X12_readDigits rfl rfl rfl rfl dX12_readNumbers_42 (fun r w1 hp => ?_)
      rcases hp with ⟨gb207, rfl, rfl⟩ | ⟨gb207, rfl, rfl⟩
      · have gb207 : ldz (uz (fun t => mrw (100 * mre + t)) (mrm mre)) (mpl + 1) 1 = 1 := gb207
        refine Wx.eqW (ws' := (WM X.γ a mh mn mkd mfg mag mpo mwy mdy mhw mkk mkf mrs mrm mrw mth maw mgr mwa mre (mpl + 2) 0 msn mpn mlo (upz mtl i (numz (uz (fun t => mrw (100 * mre + t)) (mrm mre)) mpl 1)) mke mim mhi mp0 mtk mki mun msd mbe)) (by rw [show mpl + 2 = mpl + 1 + 1 by omega]) ?_
        refine x_iastore C (f := (upz mtl i (numz (uz (fun t => mrw (100 * mre + t)) (mrm mre)) mpl 1))) 17 rfl (by omega) rfl (WM X.γ a mh mn mkd mfg mag mpo mwy mdy mhw mkk mkf mrs mrm mrw mth maw mgr mwa mre (mpl + 2) 0 msn mpn mlo (upz (upz mtl i (numz (uz (fun t => mrw (100 * mre + t)) (mrm mre)) mpl 1)) (i + 1) (numz (uz (fun t => mrw (100 * mre + t)) (mrm mre)) (mpl + 1) 1)) mke mim mhi mp0 mtk mki mun msd mbe) rfl dX12_readNumbers_45 ?_
        refine x_aload_n C 0 rfl rfl dX12_readNumbers_46 ?_
        refine x_get C in_X12_readNumbers_X12 0 rfl rfl 24 (by decide) (List.mem_of_getElem? (i := 1) rfl) rfl (v := .ref (a 17)) rfl dX12_readNumbers_47 ?_
        refine x_iload_n C 2 rfl rfl dX12_readNumbers_50 ?_
        refine x_iconst (v := 0) C dX12_readNumbers_51 ?_
        refine x_iadd C dX12_readNumbers_52 ?_
        refine x_aload_n C 0 rfl rfl dX12_readNumbers_53 ?_
        refine x_iconst (v := 0) C dX12_readNumbers_54 ?_
        refine x_V_I C (As := [.int (iN (3))]) (rest := [.int (iN (i + 2)), .ref (a 17)]) 1 0 rfl rfl gX12_readNumbers_X12_readDigits rfl (c_X12_readDigits_0 _ _ a mh mn mkd mfg mag mpo mwy mdy mhw mkk mkf mrs mrm mrw mth maw mgr mwa mre (mpl + 2) msn mpn mlo (upz (upz mtl i (numz (uz (fun t => mrw (100 * mre + t)) (mrm mre)) mpl 1)) (i + 1) (numz (uz (fun t => mrw (100 * mre + t)) (mrm mre)) (mpl + 1) 1)) mke mim mhi mp0 mtk mki mun msd mbe hM (3) (by omega) (by omega) (by omega)) rfl ok_X12_readDigits rfl rfl rfl rfl dX12_readNumbers_55 (fun r w1 hp => ?_)
        rcases hp with ⟨gb208, rfl, rfl⟩ | ⟨gb208, rfl, rfl⟩
        · have gb208 : ldz (uz (fun t => mrw (100 * mre + t)) (mrm mre)) (mpl + 2) 3 = 3 := gb208
          refine Wx.eqW (ws' := (WM X.γ a mh mn mkd mfg mag mpo mwy mdy mhw mkk mkf mrs mrm mrw mth maw mgr mwa mre (mpl + 5) 0 msn mpn mlo (upz (upz mtl i (numz (uz (fun t => mrw (100 * mre + t)) (mrm mre)) mpl 1)) (i + 1) (numz (uz (fun t => mrw (100 * mre + t)) (mrm mre)) (mpl + 1) 1)) mke mim mhi mp0 mtk mki mun msd mbe)) (by rw [show mpl + 5 = mpl + 2 + 3 by omega]) ?_
          refine x_iastore C (f := (upz (upz mtl i (numz (uz (fun t => mrw (100 * mre + t)) (mrm mre)) mpl 1)) (i + 1) (numz (uz (fun t => mrw (100 * mre + t)) (mrm mre)) (mpl + 1) 1))) 17 rfl (by omega) rfl (WM X.γ a mh mn mkd mfg mag mpo mwy mdy mhw mkk mkf mrs mrm mrw mth maw mgr mwa mre (mpl + 5) 0 msn mpn mlo (upz (upz (upz mtl i (numz (uz (fun t => mrw (100 * mre + t)) (mrm mre)) mpl 1)) (i + 1) (numz (uz (fun t => mrw (100 * mre + t)) (mrm mre)) (mpl + 1) 1)) (i + 2) (numz (uz (fun t => mrw (100 * mre + t)) (mrm mre)) (mpl + 2) 3)) mke mim mhi mp0 mtk mki mun msd mbe) rfl dX12_readNumbers_58 ?_
          refine x_aload_n C 0 rfl rfl dX12_readNumbers_59 ?_
          refine x_get C in_X12_readNumbers_X12 0 rfl rfl 24 (by decide) (List.mem_of_getElem? (i := 1) rfl) rfl (v := .ref (a 17)) rfl dX12_readNumbers_60 ?_
          refine x_iload_n C 2 rfl rfl dX12_readNumbers_63 ?_
          refine x_iconst (v := 0) C dX12_readNumbers_64 ?_
          refine x_iadd C dX12_readNumbers_65 ?_
          refine x_aload_n C 0 rfl rfl dX12_readNumbers_66 ?_
          refine x_iconst (v := 0) C dX12_readNumbers_67 ?_
          refine x_V_I C (As := [.int (iN (2))]) (rest := [.int (iN (i + 3)), .ref (a 17)]) 1 0 rfl rfl gX12_readNumbers_X12_readDigits rfl (c_X12_readDigits_0 _ _ a mh mn mkd mfg mag mpo mwy mdy mhw mkk mkf mrs mrm mrw mth maw mgr mwa mre (mpl + 5) msn mpn mlo (upz (upz (upz mtl i (numz (uz (fun t => mrw (100 * mre + t)) (mrm mre)) mpl 1)) (i + 1) (numz (uz (fun t => mrw (100 * mre + t)) (mrm mre)) (mpl + 1) 1)) (i + 2) (numz (uz (fun t => mrw (100 * mre + t)) (mrm mre)) (mpl + 2) 3)) mke mim mhi mp0 mtk mki mun msd mbe hM (2) (by omega) (by omega) (by omega)) rfl ok_X12_readDigits rfl rfl rfl rfl dX12_readNumbers_68 (fun r w1 hp => ?_)
          rcases hp with ⟨gb209, rfl, rfl⟩ | ⟨gb209, rfl, rfl⟩
          · have gb209 : ldz (uz (fun t => mrw (100 * mre + t)) (mrm mre)) (mpl + 5) 2 = 2 := gb209
            refine Wx.eqW (ws' := (WM X.γ a mh mn mkd mfg mag mpo mwy mdy mhw mkk mkf mrs mrm mrw mth maw mgr mwa mre (mpl + 7) 0 msn mpn mlo (upz (upz (upz mtl i (numz (uz (fun t => mrw (100 * mre + t)) (mrm mre)) mpl 1)) (i + 1) (numz (uz (fun t => mrw (100 * mre + t)) (mrm mre)) (mpl + 1) 1)) (i + 2) (numz (uz (fun t => mrw (100 * mre + t)) (mrm mre)) (mpl + 2) 3)) mke mim mhi mp0 mtk mki mun msd mbe)) (by rw [show mpl + 7 = mpl + 5 + 2 by omega]) ?_
            refine x_iastore C (f := (upz (upz (upz mtl i (numz (uz (fun t => mrw (100 * mre + t)) (mrm mre)) mpl 1)) (i + 1) (numz (uz (fun t => mrw (100 * mre + t)) (mrm mre)) (mpl + 1) 1)) (i + 2) (numz (uz (fun t => mrw (100 * mre + t)) (mrm mre)) (mpl + 2) 3))) 17 rfl (by omega) rfl (WM X.γ a mh mn mkd mfg mag mpo mwy mdy mhw mkk mkf mrs mrm mrw mth maw mgr mwa mre (mpl + 7) 0 msn mpn mlo (upz (upz (upz (upz mtl i (numz (uz (fun t => mrw (100 * mre + t)) (mrm mre)) mpl 1)) (i + 1) (numz (uz (fun t => mrw (100 * mre + t)) (mrm mre)) (mpl + 1) 1)) (i + 2) (numz (uz (fun t => mrw (100 * mre + t)) (mrm mre)) (mpl + 2) 3)) (i + 3) (numz (uz (fun t => mrw (100 * mre + t)) (mrm mre)) (mpl + 5) 2)) mke mim mhi mp0 mtk mki mun msd mbe) rfl dX12_readNumbers_71 ?_
            refine x_goto C 122 (by decide) dX12_readNumbers_72 ?_
            exact hret _ _ _ dX12_readNumbers_122 (Or.inl (by have hT : ldz (uz (fun t => mrw (100 * mre + t)) (mrm mre)) mpl 7 = 1 + (1 + (3 + (2))) := (show ldz (uz (fun t => mrw (100 * mre + t)) (mrm mre)) mpl 7 = 1 + (1 + (3 + (2))) from (ldz_go2 (q := (mpl + 1)) 6 (by omega) gb206).trans (by rw [(show ldz (uz (fun t => mrw (100 * mre + t)) (mrm mre)) (mpl + 1) 6 = 1 + (3 + (2)) from (ldz_go2 (q := (mpl + 2)) 5 (by omega) gb207).trans (by rw [(show ldz (uz (fun t => mrw (100 * mre + t)) (mrm mre)) (mpl + 2) 5 = 3 + (2) from (ldz_go2 (q := (mpl + 5)) 2 (by omega) gb208).trans (by rw [(show ldz (uz (fun t => mrw (100 * mre + t)) (mrm mre)) (mpl + 5) 2 = 2 from gb209)]))]))])); exact ⟨hT, (upz (upz (upz (upz mtl i (numz (uz (fun t => mrw (100 * mre + t)) (mrm mre)) mpl 1)) (i + 1) (numz (uz (fun t => mrw (100 * mre + t)) (mrm mre)) (mpl + 1) 1)) (i + 2) (numz (uz (fun t => mrw (100 * mre + t)) (mrm mre)) (mpl + 2) 3)) (i + 3) (numz (uz (fun t => mrw (100 * mre + t)) (mrm mre)) (mpl + 5) 2)), fun j hj => by rw [upz_n (by omega), upz_n (by omega), upz_n (by omega), upz_n (by omega)], ⟨by rw [upz_n (by omega), upz_n (by omega), upz_n (by omega), upz_s]; rfl, fun _ => by rw [upz_n (by omega), upz_n (by omega), upz_s]; rfl, fun _ => ⟨by rw [upz_n (by omega), upz_s]; rfl, by rw [upz_s]; rfl⟩⟩, rfl⟩))
          · have gb209 : ldz (uz (fun t => mrw (100 * mre + t)) (mrm mre)) (mpl + 5) 2 < 2 := gb209
            refine x_iastore C (f := (upz (upz (upz mtl i (numz (uz (fun t => mrw (100 * mre + t)) (mrm mre)) mpl 1)) (i + 1) (numz (uz (fun t => mrw (100 * mre + t)) (mrm mre)) (mpl + 1) 1)) (i + 2) (numz (uz (fun t => mrw (100 * mre + t)) (mrm mre)) (mpl + 2) 3))) 17 rfl (by omega) rfl (WM X.γ a mh mn mkd mfg mag mpo mwy mdy mhw mkk mkf mrs mrm mrw mth maw mgr mwa mre (mpl + 5 + (ldz (uz (fun t => mrw (100 * mre + t)) (mrm mre)) (mpl + 5) 2 : Int)) 1 msn mpn mlo (upz (upz (upz (upz mtl i (numz (uz (fun t => mrw (100 * mre + t)) (mrm mre)) mpl 1)) (i + 1) (numz (uz (fun t => mrw (100 * mre + t)) (mrm mre)) (mpl + 1) 1)) (i + 2) (numz (uz (fun t => mrw (100 * mre + t)) (mrm mre)) (mpl + 2) 3)) (i + 3) 0) mke mim mhi mp0 mtk mki mun msd mbe) rfl dX12_readNumbers_71 ?_
            refine x_goto C 122 (by decide) dX12_readNumbers_72 ?_
            exact hret _ _ _ dX12_readNumbers_122 (Or.inr (by have hT : ldz (uz (fun t => mrw (100 * mre + t)) (mrm mre)) mpl 7 = 1 + (1 + (3 + (ldz (uz (fun t => mrw (100 * mre + t)) (mrm mre)) (mpl + 5) 2))) := (show ldz (uz (fun t => mrw (100 * mre + t)) (mrm mre)) mpl 7 = 1 + (1 + (3 + (ldz (uz (fun t => mrw (100 * mre + t)) (mrm mre)) (mpl + 5) 2))) from (ldz_go2 (q := (mpl + 1)) 6 (by omega) gb206).trans (by rw [(show ldz (uz (fun t => mrw (100 * mre + t)) (mrm mre)) (mpl + 1) 6 = 1 + (3 + (ldz (uz (fun t => mrw (100 * mre + t)) (mrm mre)) (mpl + 5) 2)) from (ldz_go2 (q := (mpl + 2)) 5 (by omega) gb207).trans (by rw [(show ldz (uz (fun t => mrw (100 * mre + t)) (mrm mre)) (mpl + 2) 5 = 3 + (ldz (uz (fun t => mrw (100 * mre + t)) (mrm mre)) (mpl + 5) 2) from (ldz_go2 (q := (mpl + 5)) 2 (by omega) gb208).trans (by rw [(show ldz (uz (fun t => mrw (100 * mre + t)) (mrm mre)) (mpl + 5) 2 = ldz (uz (fun t => mrw (100 * mre + t)) (mrm mre)) (mpl + 5) 2 from rfl)]))]))])); refine ⟨show ldz (uz (fun t => mrw (100 * mre + t)) (mrm mre)) mpl 7 < 7 from (by have := gb209; omega), (upz (upz (upz (upz mtl i (numz (uz (fun t => mrw (100 * mre + t)) (mrm mre)) mpl 1)) (i + 1) (numz (uz (fun t => mrw (100 * mre + t)) (mrm mre)) (mpl + 1) 1)) (i + 2) (numz (uz (fun t => mrw (100 * mre + t)) (mrm mre)) (mpl + 2) 3)) (i + 3) 0), ?_⟩; show _ = (WM X.γ a mh mn mkd mfg mag mpo mwy mdy mhw mkk mkf mrs mrm mrw mth maw mgr mwa mre (mpl + (ldz (uz (fun t => mrw (100 * mre + t)) (mrm mre)) mpl 7 : Int)) 1 msn mpn mlo (upz (upz (upz (upz mtl i (numz (uz (fun t => mrw (100 * mre + t)) (mrm mre)) mpl 1)) (i + 1) (numz (uz (fun t => mrw (100 * mre + t)) (mrm mre)) (mpl + 1) 1)) (i + 2) (numz (uz (fun t => mrw (100 * mre + t)) (mrm mre)) (mpl + 2) 3)) (i + 3) 0) mke mim mhi mp0 mtk mki mun msd mbe); rw [show (mpl + (ldz (uz (fun t => mrw (100 * mre + t)) (mrm mre)) mpl 7 : Int)) = mpl + 5 + (ldz (uz (fun t => mrw (100 * mre + t)) (mrm mre)) (mpl + 5) 2 : Int) from (by omega)]))
        · have gb208 : ldz (uz (fun t => mrw (100 * mre + t)) (mrm mre)) (mpl + 2) 3 < 3 := gb208
          refine x_iastore C (f := (upz (upz mtl i (numz (uz (fun t => mrw (100 * mre + t)) (mrm mre)) mpl 1)) (i + 1) (numz (uz (fun t => mrw (100 * mre + t)) (mrm mre)) (mpl + 1) 1))) 17 rfl (by omega) rfl (WM X.γ a mh mn mkd mfg mag mpo mwy mdy mhw mkk mkf mrs mrm mrw mth maw mgr mwa mre (mpl + 2 + (ldz (uz (fun t => mrw (100 * mre + t)) (mrm mre)) (mpl + 2) 3 : Int)) 1 msn mpn mlo (upz (upz (upz mtl i (numz (uz (fun t => mrw (100 * mre + t)) (mrm mre)) mpl 1)) (i + 1) (numz (uz (fun t => mrw (100 * mre + t)) (mrm mre)) (mpl + 1) 1)) (i + 2) 0) mke mim mhi mp0 mtk mki mun msd mbe) rfl dX12_readNumbers_58 ?_
          refine x_aload_n C 0 rfl rfl dX12_readNumbers_59 ?_
          refine x_get C in_X12_readNumbers_X12 0 rfl rfl 24 (by decide) (List.mem_of_getElem? (i := 1) rfl) rfl (v := .ref (a 17)) rfl dX12_readNumbers_60 ?_
          refine x_iload_n C 2 rfl rfl dX12_readNumbers_63 ?_
          refine x_iconst (v := 0) C dX12_readNumbers_64 ?_
          refine x_iadd C dX12_readNumbers_65 ?_
          refine x_aload_n C 0 rfl rfl dX12_readNumbers_66 ?_
          refine x_iconst (v := 0) C dX12_readNumbers_67 ?_
          refine x_V_I C (As := [.int (iN (2))]) (rest := [.int (iN (i + 3)), .ref (a 17)]) 1 0 rfl rfl gX12_readNumbers_X12_readDigits rfl (c_X12_readDigits_1 _ _ a mh mn mkd mfg mag mpo mwy mdy mhw mkk mkf mrs mrm mrw mth maw mgr mwa mre (mpl + 2 + (ldz (uz (fun t => mrw (100 * mre + t)) (mrm mre)) (mpl + 2) 3 : Int)) msn mpn mlo (upz (upz (upz mtl i (numz (uz (fun t => mrw (100 * mre + t)) (mrm mre)) mpl 1)) (i + 1) (numz (uz (fun t => mrw (100 * mre + t)) (mrm mre)) (mpl + 1) 1)) (i + 2) 0) mke mim mhi mp0 mtk mki mun msd mbe hM (2) (by omega) (by omega) (by omega)) rfl ok_X12_readDigits rfl rfl rfl rfl dX12_readNumbers_68 (fun r w1 hp => ?_)
          obtain ⟨rfl, rfl⟩ := hp
          show Wx X 0 0 (WM X.γ a mh mn mkd mfg mag mpo mwy mdy mhw mkk mkf mrs mrm mrw mth maw mgr mwa mre (mpl + 2 + (ldz (uz (fun t => mrw (100 * mre + t)) (mrm mre)) (mpl + 2) 3 : Int)) 1 msn mpn mlo (upz (upz (upz mtl i (numz (uz (fun t => mrw (100 * mre + t)) (mrm mre)) mpl 1)) (i + 1) (numz (uz (fun t => mrw (100 * mre + t)) (mrm mre)) (mpl + 1) 1)) (i + 2) 0) mke mim mhi mp0 mtk mki mun msd mbe) 71 [(0, .ref (a 0)), (1, .int (iN (119))), (2, .int (iN (i)))] [.int (iN (0)), .int (iN (i + 3)), .ref (a 17)]
          refine x_iastore C (f := (upz (upz (upz mtl i (numz (uz (fun t => mrw (100 * mre + t)) (mrm mre)) mpl 1)) (i + 1) (numz (uz (fun t => mrw (100 * mre + t)) (mrm mre)) (mpl + 1) 1)) (i + 2) 0)) 17 rfl (by omega) rfl (WM X.γ a mh mn mkd mfg mag mpo mwy mdy mhw mkk mkf mrs mrm mrw mth maw mgr mwa mre (mpl + 2 + (ldz (uz (fun t => mrw (100 * mre + t)) (mrm mre)) (mpl + 2) 3 : Int)) 1 msn mpn mlo (upz (upz (upz (upz mtl i (numz (uz (fun t => mrw (100 * mre + t)) (mrm mre)) mpl 1)) (i + 1) (numz (uz (fun t => mrw (100 * mre + t)) (mrm mre)) (mpl + 1) 1)) (i + 2) 0) (i + 3) 0) mke mim mhi mp0 mtk mki mun msd mbe) rfl dX12_readNumbers_71 ?_
          refine x_goto C 122 (by decide) dX12_readNumbers_72 ?_
          exact hret _ _ _ dX12_readNumbers_122 (Or.inr (by have hT : ldz (uz (fun t => mrw (100 * mre + t)) (mrm mre)) mpl 7 = 1 + (1 + (ldz (uz (fun t => mrw (100 * mre + t)) (mrm mre)) (mpl + 2) 3)) := (show ldz (uz (fun t => mrw (100 * mre + t)) (mrm mre)) mpl 7 = 1 + (1 + (ldz (uz (fun t => mrw (100 * mre + t)) (mrm mre)) (mpl + 2) 3)) from (ldz_go2 (q := (mpl + 1)) 6 (by omega) gb206).trans (by rw [(show ldz (uz (fun t => mrw (100 * mre + t)) (mrm mre)) (mpl + 1) 6 = 1 + (ldz (uz (fun t => mrw (100 * mre + t)) (mrm mre)) (mpl + 2) 3) from (ldz_go2 (q := (mpl + 2)) 5 (by omega) gb207).trans (by rw [(show ldz (uz (fun t => mrw (100 * mre + t)) (mrm mre)) (mpl + 2) 5 = ldz (uz (fun t => mrw (100 * mre + t)) (mrm mre)) (mpl + 2) 3 from (ldz_no 2 gb208))]))])); refine ⟨show ldz (uz (fun t => mrw (100 * mre + t)) (mrm mre)) mpl 7 < 7 from (by have := gb208; omega), (upz (upz (upz (upz mtl i (numz (uz (fun t => mrw (100 * mre + t)) (mrm mre)) mpl 1)) (i + 1) (numz (uz (fun t => mrw (100 * mre + t)) (mrm mre)) (mpl + 1) 1)) (i + 2) 0) (i + 3) 0), ?_⟩; show _ = (WM X.γ a mh mn mkd mfg mag mpo mwy mdy mhw mkk mkf mrs mrm mrw mth maw mgr mwa mre (mpl + (ldz (uz (fun t => mrw (100 * mre + t)) (mrm mre)) mpl 7 : Int)) 1 msn mpn mlo (upz (upz (upz (upz mtl i (numz (uz (fun t => mrw (100 * mre + t)) (mrm mre)) mpl 1)) (i + 1) (numz (uz (fun t => mrw (100 * mre + t)) (mrm mre)) (mpl + 1) 1)) (i + 2) 0) (i + 3) 0) mke mim mhi mp0 mtk mki mun msd mbe); rw [show (mpl + (ldz (uz (fun t => mrw (100 * mre + t)) (mrm mre)) mpl 7 : Int)) = mpl + 2 + (ldz (uz (fun t => mrw (100 * mre + t)) (mrm mre)) (mpl + 2) 3 : Int) from (by omega)]))
      · have gb207 : ldz (uz (fun t => mrw (100 * mre + t)) (mrm mre)) (mpl + 1) 1 < 1 := gb207
        refine x_iastore C (f := (upz mtl i (numz (uz (fun t => mrw (100 * mre + t)) (mrm mre)) mpl 1))) 17 rfl (by omega) rfl (WM X.γ a mh mn mkd mfg mag mpo mwy mdy mhw mkk mkf mrs mrm mrw mth maw mgr mwa mre (mpl + 1 + (ldz (uz (fun t => mrw (100 * mre + t)) (mrm mre)) (mpl + 1) 1 : Int)) 1 msn mpn mlo (upz (upz mtl i (numz (uz (fun t => mrw (100 * mre + t)) (mrm mre)) mpl 1)) (i + 1) 0) mke mim mhi mp0 mtk mki mun msd mbe) rfl dX12_readNumbers_45 ?_
        refine x_aload_n C 0 rfl rfl dX12_readNumbers_46 ?_
        refine x_get C in_X12_readNumbers_X12 0 rfl rfl 24 (by decide) (List.mem_of_getElem? (i := 1) rfl) rfl (v := .ref (a 17)) rfl dX12_readNumbers_47 ?_
        refine x_iload_n C 2 rfl rfl dX12_readNumbers_50 ?_
        refine x_iconst (v := 0) C dX12_readNumbers_51 ?_
        refine x_iadd C dX12_readNumbers_52 ?_
        refine x_aload_n C 0 rfl rfl dX12_readNumbers_53 ?_
        refine x_iconst (v := 0) C dX12_readNumbers_54 ?_
        refine x_V_I C (As := [.int (iN (3))]) (rest := [.int (iN (i + 2)), .ref (a 17)]) 1 0 rfl rfl gX12_readNumbers_X12_readDigits rfl (c_X12_readDigits_1 _ _ a mh mn mkd mfg mag mpo mwy mdy mhw mkk mkf mrs mrm mrw mth maw mgr mwa mre (mpl + 1 + (ldz (uz (fun t => mrw (100 * mre + t)) (mrm mre)) (mpl + 1) 1 : Int)) msn mpn mlo (upz (upz mtl i (numz (uz (fun t => mrw (100 * mre + t)) (mrm mre)) mpl 1)) (i + 1) 0) mke mim mhi mp0 mtk mki mun msd mbe hM (3) (by omega) (by omega) (by omega)) rfl ok_X12_readDigits rfl rfl rfl rfl dX12_readNumbers_55 (fun r w1 hp => ?_)
        obtain ⟨rfl, rfl⟩ := hp
        show Wx X 0 0 (WM X.γ a mh mn mkd mfg mag mpo mwy mdy mhw mkk mkf mrs mrm mrw mth maw mgr mwa mre (mpl + 1 + (ldz (uz (fun t => mrw (100 * mre + t)) (mrm mre)) (mpl + 1) 1 : Int)) 1 msn mpn mlo (upz (upz mtl i (numz (uz (fun t => mrw (100 * mre + t)) (mrm mre)) mpl 1)) (i + 1) 0) mke mim mhi mp0 mtk mki mun msd mbe) 58 [(0, .ref (a 0)), (1, .int (iN (119))), (2, .int (iN (i)))] [.int (iN (0)), .int (iN (i + 2)), .ref (a 17)]
        refine x_iastore C (f := (upz (upz mtl i (numz (uz (fun t => mrw (100 * mre + t)) (mrm mre)) mpl 1)) (i + 1) 0)) 17 rfl (by omega) rfl (WM X.γ a mh mn mkd mfg mag mpo mwy mdy mhw mkk mkf mrs mrm mrw mth maw mgr mwa mre (mpl + 1 + (ldz (uz (fun t => mrw (100 * mre + t)) (mrm mre)) (mpl + 1) 1 : Int)) 1 msn mpn mlo (upz (upz (upz mtl i (numz (uz (fun t => mrw (100 * mre + t)) (mrm mre)) mpl 1)) (i + 1) 0) (i + 2) 0) mke mim mhi mp0 mtk mki mun msd mbe) rfl dX12_readNumbers_58 ?_
        refine x_aload_n C 0 rfl rfl dX12_readNumbers_59 ?_
        refine x_get C in_X12_readNumbers_X12 0 rfl rfl 24 (by decide) (List.mem_of_getElem? (i := 1) rfl) rfl (v := .ref (a 17)) rfl dX12_readNumbers_60 ?_
        refine x_iload_n C 2 rfl rfl dX12_readNumbers_63 ?_
        refine x_iconst (v := 0) C dX12_readNumbers_64 ?_
        refine x_iadd C dX12_readNumbers_65 ?_
        refine x_aload_n C 0 rfl rfl dX12_readNumbers_66 ?_
        refine x_iconst (v := 0) C dX12_readNumbers_67 ?_
        refine x_V_I C (As := [.int (iN (2))]) (rest := [.int (iN (i + 3)), .ref (a 17)]) 1 0 rfl rfl gX12_readNumbers_X12_readDigits rfl (c_X12_readDigits_1 _ _ a mh mn mkd mfg mag mpo mwy mdy mhw mkk mkf mrs mrm mrw mth maw mgr mwa mre (mpl + 1 + (ldz (uz (fun t => mrw (100 * mre + t)) (mrm mre)) (mpl + 1) 1 : Int)) msn mpn mlo (upz (upz (upz mtl i (numz (uz (fun t => mrw (100 * mre + t)) (mrm mre)) mpl 1)) (i + 1) 0) (i + 2) 0) mke mim mhi mp0 mtk mki mun msd mbe hM (2) (by omega) (by omega) (by omega)) rfl ok_X12_readDigits rfl rfl rfl rfl dX12_readNumbers_68 (fun r w1 hp => ?_)
        obtain ⟨rfl, rfl⟩ := hp
        show Wx X 0 0 (WM X.γ a mh mn mkd mfg mag mpo mwy mdy mhw mkk mkf mrs mrm mrw mth maw mgr mwa mre (mpl + 1 + (ldz (uz (fun t => mrw (100 * mre + t)) (mrm mre)) (mpl + 1) 1 : Int)) 1 msn mpn mlo (upz (upz (upz mtl i (numz (uz (fun t => mrw (100 * mre + t)) (mrm mre)) mpl 1)) (i + 1) 0) (i + 2) 0) mke mim mhi mp0 mtk mki mun msd mbe) 71 [(0, .ref (a 0)), (1, .int (iN (119))), (2, .int (iN (i)))] [.int (iN (0)), .int (iN (i + 3)), .ref (a 17)]
        refine x_iastore C (f := (upz (upz (upz mtl i (numz (uz (fun t => mrw (100 * mre + t)) (mrm mre)) mpl 1)) (i + 1) 0) (i + 2) 0)) 17 rfl (by omega) rfl (WM X.γ a mh mn mkd mfg mag mpo mwy mdy mhw mkk mkf mrs mrm mrw mth maw mgr mwa mre (mpl + 1 + (ldz (uz (fun t => mrw (100 * mre + t)) (mrm mre)) (mpl + 1) 1 : Int)) 1 msn mpn mlo (upz (upz (upz (upz mtl i (numz (uz (fun t => mrw (100 * mre + t)) (mrm mre)) mpl 1)) (i + 1) 0) (i + 2) 0) (i + 3) 0) mke mim mhi mp0 mtk mki mun msd mbe) rfl dX12_readNumbers_71 ?_
        refine x_goto C 122 (by decide) dX12_readNumbers_72 ?_
        exact hret _ _ _ dX12_readNumbers_122 (Or.inr (by have hT : ldz (uz (fun t => mrw (100 * mre + t)) (mrm mre)) mpl 7 = 1 + (ldz (uz (fun t => mrw (100 * mre + t)) (mrm mre)) (mpl + 1) 1) := (show ldz (uz (fun t => mrw (100 * mre + t)) (mrm mre)) mpl 7 = 1 + (ldz (uz (fun t => mrw (100 * mre + t)) (mrm mre)) (mpl + 1) 1) from (ldz_go2 (q := (mpl + 1)) 6 (by omega) gb206).trans (by rw [(show ldz (uz (fun t => mrw (100 * mre + t)) (mrm mre)) (mpl + 1) 6 = ldz (uz (fun t => mrw (100 * mre + t)) (mrm mre)) (mpl + 1) 1 from (ldz_no 5 gb207))])); refine ⟨show ldz (uz (fun t => mrw (100 * mre + t)) (mrm mre)) mpl 7 < 7 from (by have := gb207; omega), (upz (upz (upz (upz mtl i (numz (uz (fun t => mrw (100 * mre + t)) (mrm mre)) mpl 1)) (i + 1) 0) (i + 2) 0) (i + 3) 0), ?_⟩; show _ = (WM X.γ a mh mn mkd mfg mag mpo mwy mdy mhw mkk mkf mrs mrm mrw mth maw mgr mwa mre (mpl + (ldz (uz (fun t => mrw (100 * mre + t)) (mrm mre)) mpl 7 : Int)) 1 msn mpn mlo (upz (upz (upz (upz mtl i (numz (uz (fun t => mrw (100 * mre + t)) (mrm mre)) mpl 1)) (i + 1) 0) (i + 2) 0) (i + 3) 0) mke mim mhi mp0 mtk mki mun msd mbe); rw [show (mpl + (ldz (uz (fun t => mrw (100 * mre + t)) (mrm mre)) mpl 7 : Int)) = mpl + 1 + (ldz (uz (fun t => mrw (100 * mre + t)) (mrm mre)) (mpl + 1) 1 : Int) from (by omega)]))
    · have gb206 : ldz (uz (fun t => mrw (100 * mre + t)) (mrm mre)) mpl 1 < 1 := gb206
      refine x_iastore C (f := mtl) 17 rfl (by omega) rfl (WM X.γ a mh mn mkd mfg mag mpo mwy mdy mhw mkk mkf mrs mrm mrw mth maw mgr mwa mre (mpl + (ldz (uz (fun t => mrw (100 * mre + t)) (mrm mre)) mpl 1 : Int)) 1 msn mpn mlo (upz mtl i 0) mke mim mhi mp0 mtk mki mun msd mbe) rfl dX12_readNumbers_26 ?_
      refine x_iload_n C 1 rfl rfl dX12_readNumbers_27 ?_
      refine x_bipush C (119) (by decide) dX12_readNumbers_28 ?_
      refine x_icmp_ne C 75 (by decide) (by decide) dX12_readNumbers_30 (fun z => absurd z (by decide)) (fun _ => ?_)
      refine x_aload_n C 0 rfl rfl dX12_readNumbers_33 ?_
      refine x_get C in_X12_readNumbers_X12 0 rfl rfl 24 (by decide) (List.mem_of_getElem? (i := 1) rfl) rfl (v := .ref (a 17)) rfl dX12_readNumbers_34 ?_
      refine x_iload_n C 2 rfl rfl dX12_readNumbers_37 ?_
      refine x_iconst (v := 0) C dX12_readNumbers_38 ?_
      refine x_iadd C dX12_readNumbers_39 ?_
      refine x_aload_n C 0 rfl rfl dX12_readNumbers_40 ?_
      refine x_iconst (v := 0) C dX12_readNumbers_41 ?_
      refine x_V_I C (As := [.int (iN (1))]) (rest := [.int (iN (i + 1)), .ref (a 17)]) 1 0 rfl rfl gX12_readNumbers_X12_readDigits rfl (c_X12_readDigits_1 _ _ a mh mn mkd mfg mag mpo mwy mdy mhw mkk mkf mrs mrm mrw mth maw mgr mwa mre (mpl + (ldz (uz (fun t => mrw (100 * mre + t)) (mrm mre)) mpl 1 : Int)) msn mpn mlo (upz mtl i 0) mke mim mhi mp0 mtk mki mun msd mbe hM (1) (by omega) (by omega) (by omega)) rfl ok_X12_readDigits rfl rfl rfl rfl dX12_readNumbers_42 (fun r w1 hp => ?_)
      obtain ⟨rfl, rfl⟩ := hp
      show Wx X 0 0 (WM X.γ a mh mn mkd mfg mag mpo mwy mdy mhw mkk mkf mrs mrm mrw mth maw mgr mwa mre (mpl + (ldz (uz (fun t => mrw (100 * mre + t)) (mrm mre)) mpl 1 : Int)) 1 msn mpn mlo (upz mtl i 0) mke mim mhi mp0 mtk mki mun msd mbe) 45 [(0, .ref (a 0)), (1, .int (iN (119))), (2, .int (iN (i)))] [.int (iN (0)), .int (iN (i + 1)), .ref (a 17)]
      refine x_iastore C (f := (upz mtl i 0)) 17 rfl (by omega) rfl (WM X.γ a mh mn mkd mfg mag mpo mwy mdy mhw mkk mkf mrs mrm mrw mth maw mgr mwa mre (mpl + (ldz (uz (fun t => mrw (100 * mre + t)) (mrm mre)) mpl 1 : Int)) 1 msn mpn mlo (upz (upz mtl i 0) (i + 1) 0) mke mim mhi mp0 mtk mki mun msd mbe) rfl dX12_readNumbers_45 ?_
      refine x_aload_n C 0 rfl rfl dX12_readNumbers_46 ?_
      refine x_get C in_X12_readNumbers_X12 0 rfl rfl 24 (by decide) (List.mem_of_getElem? (i := 1) rfl) rfl (v := .ref (a 17)) rfl dX12_readNumbers_47 ?_
      refine x_iload_n C 2 rfl rfl dX12_readNumbers_50 ?_
      refine x_iconst (v := 0) C dX12_readNumbers_51 ?_
      refine x_iadd C dX12_readNumbers_52 ?_
      refine x_aload_n C 0 rfl rfl dX12_readNumbers_53 ?_
      refine x_iconst (v := 0) C dX12_readNumbers_54 ?_
      refine x_V_I C (As := [.int (iN (3))]) (rest := [.int (iN (i + 2)), .ref (a 17)]) 1 0 rfl rfl gX12_readNumbers_X12_readDigits rfl (c_X12_readDigits_1 _ _ a mh mn mkd mfg mag mpo mwy mdy mhw mkk mkf mrs mrm mrw mth maw mgr mwa mre (mpl + (ldz (uz (fun t => mrw (100 * mre + t)) (mrm mre)) mpl 1 : Int)) msn mpn mlo (upz (upz mtl i 0) (i + 1) 0) mke mim mhi mp0 mtk mki mun msd mbe hM (3) (by omega) (by omega) (by omega)) rfl ok_X12_readDigits rfl rfl rfl rfl dX12_readNumbers_55 (fun r w1 hp => ?_)
      obtain ⟨rfl, rfl⟩ := hp
      show Wx X 0 0 (WM X.γ a mh mn mkd mfg mag mpo mwy mdy mhw mkk mkf mrs mrm mrw mth maw mgr mwa mre (mpl + (ldz (uz (fun t => mrw (100 * mre + t)) (mrm mre)) mpl 1 : Int)) 1 msn mpn mlo (upz (upz mtl i 0) (i + 1) 0) mke mim mhi mp0 mtk mki mun msd mbe) 58 [(0, .ref (a 0)), (1, .int (iN (119))), (2, .int (iN (i)))] [.int (iN (0)), .int (iN (i + 2)), .ref (a 17)]
      refine x_iastore C (f := (upz (upz mtl i 0) (i + 1) 0)) 17 rfl (by omega) rfl (WM X.γ a mh mn mkd mfg mag mpo mwy mdy mhw mkk mkf mrs mrm mrw mth maw mgr mwa mre (mpl + (ldz (uz (fun t => mrw (100 * mre + t)) (mrm mre)) mpl 1 : Int)) 1 msn mpn mlo (upz (upz (upz mtl i 0) (i + 1) 0) (i + 2) 0) mke mim mhi mp0 mtk mki mun msd mbe) rfl dX12_readNumbers_58 ?_
      refine x_aload_n C 0 rfl rfl dX12_readNumbers_59 ?_
      refine x_get C in_X12_readNumbers_X12 0 rfl rfl 24 (by decide) (List.mem_of_getElem? (i := 1) rfl) rfl (v := .ref (a 17)) rfl dX12_readNumbers_60 ?_
      refine x_iload_n C 2 rfl rfl dX12_readNumbers_63 ?_
      refine x_iconst (v := 0) C dX12_readNumbers_64 ?_
      refine x_iadd C dX12_readNumbers_65 ?_
      refine x_aload_n C 0 rfl rfl dX12_readNumbers_66 ?_
      refine x_iconst (v := 0) C dX12_readNumbers_67 ?_
      refine x_V_I C (As := [.int (iN (2))]) (rest := [.int (iN (i + 3)), .ref (a 17)]) 1 0 rfl rfl gX12_readNumbers_X12_readDigits rfl (c_X12_readDigits_1 _ _ a mh mn mkd mfg mag mpo mwy mdy mhw mkk mkf mrs mrm mrw mth maw mgr mwa mre (mpl + (ldz (uz (fun t => mrw (100 * mre + t)) (mrm mre)) mpl 1 : Int)) msn mpn mlo (upz (upz (upz mtl i 0) (i + 1) 0) (i + 2) 0) mke mim mhi mp0 mtk mki mun msd mbe hM (2) (by omega) (by omega) (by omega)) rfl ok_X12_readDigits rfl rfl rfl rfl dX12_readNumbers_68 (fun r w1 hp => ?_)
      obtain ⟨rfl, rfl⟩ := hp
      show Wx X 0 0 (WM X.γ a mh mn mkd mfg mag mpo mwy mdy mhw mkk mkf mrs mrm mrw mth maw mgr mwa mre (mpl + (ldz (uz (fun t => mrw (100 * mre + t)) (mrm mre)) mpl 1 : Int)) 1 msn mpn mlo (upz (upz (upz mtl i 0) (i + 1) 0) (i + 2) 0) mke mim mhi mp0 mtk mki mun msd mbe) 71 [(0, .ref (a 0)), (1, .int (iN (119))), (2, .int (iN (i)))] [.int (iN (0)), .int (iN (i + 3)), .ref (a 17)]
      refine x_iastore C (f := (upz (upz (upz mtl i 0) (i + 1) 0) (i + 2) 0)) 17 rfl (by omega) rfl (WM X.γ a mh mn mkd mfg mag mpo mwy mdy mhw mkk mkf mrs mrm mrw mth maw mgr mwa mre (mpl + (ldz (uz (fun t => mrw (100 * mre + t)) (mrm mre)) mpl 1 : Int)) 1 msn mpn mlo (upz (upz (upz (upz mtl i 0) (i + 1) 0) (i + 2) 0) (i + 3) 0) mke mim mhi mp0 mtk mki mun msd mbe) rfl dX12_readNumbers_71 ?_
      refine x_goto C 122 (by decide) dX12_readNumbers_72 ?_
      exact hret _ _ _ dX12_readNumbers_122 (Or.inr (by have hT : ldz (uz (fun t => mrw (100 * mre + t)) (mrm mre)) mpl 7 = ldz (uz (fun t => mrw (100 * mre + t)) (mrm mre)) mpl 1 := (show ldz (uz (fun t => mrw (100 * mre + t)) (mrm mre)) mpl 7 = ldz (uz (fun t => mrw (100 * mre + t)) (mrm mre)) mpl 1 from (ldz_no 6 gb206)); refine ⟨show ldz (uz (fun t => mrw (100 * mre + t)) (mrm mre)) mpl 7 < 7 from (by have := gb206; omega), (upz (upz (upz (upz mtl i 0) (i + 1) 0) (i + 2) 0) (i + 3) 0), ?_⟩; show _ = (WM X.γ a mh mn mkd mfg mag mpo mwy mdy mhw mkk mkf mrs mrm mrw mth maw mgr mwa mre (mpl + (ldz (uz (fun t => mrw (100 * mre + t)) (mrm mre)) mpl 7 : Int)) 1 msn mpn mlo (upz (upz (upz (upz mtl i 0) (i + 1) 0) (i + 2) 0) (i + 3) 0) mke mim mhi mp0 mtk mki mun msd mbe); rw [show (mpl + (ldz (uz (fun t => mrw (100 * mre + t)) (mrm mre)) mpl 7 : Int)) = mpl + (ldz (uz (fun t => mrw (100 * mre + t)) (mrm mre)) mpl 1 : Int) from (by omega)]))
  · show Wx X 0 0 (WM X.γ a mh mn mkd mfg mag mpo mwy mdy mhw mkk mkf mrs mrm mrw mth maw mgr mwa mre mpl 0 msn mpn mlo mtl mke mim mhi mp0 mtk mki mun msd mbe) 0 [(0, .ref (a 0)), (1, .int (iN (109))), (2, .int (iN (i)))] []
    refine x_aload_n C 0 rfl rfl dX12_readNumbers_0 ?_
    refine x_get C in_X12_readNumbers_X12 0 rfl rfl 24 (by decide) (List.mem_of_getElem? (i := 1) rfl) rfl (v := .ref (a 17)) rfl dX12_readNumbers_1 ?_
    refine x_iload_n C 2 rfl rfl dX12_readNumbers_4 ?_
    refine x_aload_n C 0 rfl rfl dX12_readNumbers_5 ?_
    refine x_iload_n C 1 rfl rfl dX12_readNumbers_6 ?_
    refine x_bipush C (103) (by decide) dX12_readNumbers_7 ?_
    refine x_icmp_eq C 18 (by decide) (by decide) dX12_readNumbers_9 (fun z => absurd z (by decide)) (fun _ => ?_)
    refine x_iload_n C 1 rfl rfl dX12_readNumbers_12 ?_
    refine x_bipush C (100) (by decide) dX12_readNumbers_13 ?_
    refine x_icmp_ne C 22 (by decide) (by decide) dX12_readNumbers_15 (fun _ => ?_) (fun z => absurd z (by decide))
    refine x_iconst (v := 0) C dX12_readNumbers_22 ?_
    refine x_V_I C (As := [.int (iN (1))]) (rest := [.int (iN (i)), .ref (a 17)]) 1 0 rfl rfl gX12_readNumbers_X12_readDigits rfl (c_X12_readDigits_0 _ _ a mh mn mkd mfg mag mpo mwy mdy mhw mkk mkf mrs mrm mrw mth maw mgr mwa mre mpl msn mpn mlo mtl mke mim mhi mp0 mtk mki mun msd mbe hM (1) (by omega) (by omega) (by omega)) rfl ok_X12_readDigits rfl rfl rfl rfl dX12_readNumbers_23 (fun r w1 hp => ?_)
    rcases hp with ⟨gb210, rfl, rfl⟩ | ⟨gb210, rfl, rfl⟩
    · have gb210 : ldz (uz (fun t => mrw (100 * mre + t)) (mrm mre)) mpl 1 = 1 := gb210
      refine x_iastore C (f := mtl) 17 rfl (by omega) rfl (WM X.γ a mh mn mkd mfg mag mpo mwy mdy mhw mkk mkf mrs mrm mrw mth maw mgr mwa mre (mpl + 1) 0 msn mpn mlo (upz mtl i (numz (uz (fun t => mrw (100 * mre + t)) (mrm mre)) mpl 1)) mke mim mhi mp0 mtk mki mun msd mbe) rfl dX12_readNumbers_26 ?_
      refine x_iload_n C 1 rfl rfl dX12_readNumbers_27 ?_
      refine x_bipush C (119) (by decide) dX12_readNumbers_28 ?_
      refine x_icmp_ne C 75 (by decide) (by decide) dX12_readNumbers_30 (fun _ => ?_) (fun z => absurd z (by decide))
      refine x_iload_n C 1 rfl rfl dX12_readNumbers_75 ?_
      refine x_bipush C (103) (by decide) dX12_readNumbers_76 ?_
      refine x_icmp_eq C 87 (by decide) (by decide) dX12_readNumbers_78 (fun z => absurd z (by decide)) (fun _ => ?_)
      refine x_iload_n C 1 rfl rfl dX12_readNumbers_81 ?_
      refine x_bipush C (109) (by decide) dX12_readNumbers_82 ?_
      refine x_icmp_ne C 103 (by decide) (by decide) dX12_readNumbers_84 (fun z => absurd z (by decide)) (fun _ => ?_)
      refine x_aload_n C 0 rfl rfl dX12_readNumbers_87 ?_
      refine x_get C in_X12_readNumbers_X12 0 rfl rfl 24 (by decide) (List.mem_of_getElem? (i := 1) rfl) rfl (v := .ref (a 17)) rfl dX12_readNumbers_88 ?_
      refine x_iload_n C 2 rfl rfl dX12_readNumbers_91 ?_
      refine x_iconst (v := 0) C dX12_readNumbers_92 ?_
      refine x_iadd C dX12_readNumbers_93 ?_
      refine x_aload_n C 0 rfl rfl dX12_readNumbers_94 ?_
      refine x_iconst (v := 0) C dX12_readNumbers_95 ?_
      refine x_V_I C (As := [.int (iN (2))]) (rest := [.int (iN (i + 1)), .ref (a 17)]) 1 0 rfl rfl gX12_readNumbers_X12_readDigits rfl (c_X12_readDigits_0 _ _ a mh mn mkd mfg mag mpo mwy mdy mhw mkk mkf mrs mrm mrw mth maw mgr mwa mre (mpl + 1) msn mpn mlo (upz mtl i (numz (uz (fun t => mrw (100 * mre + t)) (mrm mre)) mpl 1)) mke mim mhi mp0 mtk mki mun msd mbe hM (2) (by omega) (by omega) (by omega)) rfl ok_X12_readDigits rfl rfl rfl rfl dX12_readNumbers_96 (fun r w1 hp => ?_)
      rcases hp with ⟨gb211, rfl, rfl⟩ | ⟨gb211, rfl, rfl⟩
      · have gb211 : ldz (uz (fun t => mrw (100 * mre + t)) (mrm mre)) (mpl + 1) 2 = 2 := gb211
        refine Wx.eqW (ws' := (WM X.γ a mh mn mkd mfg mag mpo mwy mdy mhw mkk mkf mrs mrm mrw mth maw mgr mwa mre (mpl + 3) 0 msn mpn mlo (upz mtl i (numz (uz (fun t => mrw (100 * mre + t)) (mrm mre)) mpl 1)) mke mim mhi mp0 mtk mki mun msd mbe)) (by rw [show mpl + 3 = mpl + 1 + 2 by omega]) ?_
        refine x_iastore C (f := (upz mtl i (numz (uz (fun t => mrw (100 * mre + t)) (mrm mre)) mpl 1))) 17 rfl (by omega) rfl (WM X.γ a mh mn mkd mfg mag mpo mwy mdy mhw mkk mkf mrs mrm mrw mth maw mgr mwa mre (mpl + 3) 0 msn mpn mlo (upz (upz mtl i (numz (uz (fun t => mrw (100 * mre + t)) (mrm mre)) mpl 1)) (i + 1) (numz (uz (fun t => mrw (100 * mre + t)) (mrm mre)) (mpl + 1) 2)) mke mim mhi mp0 mtk mki mun msd mbe) rfl dX12_readNumbers_99 ?_
        refine x_goto C 122 (by decide) dX12_readNumbers_100 ?_
        exact hret _ _ _ dX12_readNumbers_122 (Or.inl (by have hT : ldz (uz (fun t => mrw (100 * mre + t)) (mrm mre)) mpl 3 = 1 + (2) := (show ldz (uz (fun t => mrw (100 * mre + t)) (mrm mre)) mpl 3 = 1 + (2) from (ldz_go2 (q := (mpl + 1)) 2 (by omega) gb210).trans (by rw [(show ldz (uz (fun t => mrw (100 * mre + t)) (mrm mre)) (mpl + 1) 2 = 2 from gb211)])); exact ⟨hT, (upz (upz mtl i (numz (uz (fun t => mrw (100 * mre + t)) (mrm mre)) mpl 1)) (i + 1) (numz (uz (fun t => mrw (100 * mre + t)) (mrm mre)) (mpl + 1) 2)), fun j hj => by rw [upz_n (by omega), upz_n (by omega)], ⟨by rw [upz_n (by omega), upz_s]; rfl, fun _ => by rw [upz_s]; rfl, fun z => absurd z (by decide)⟩, rfl⟩))
      · have gb211 : ldz (uz (fun t => mrw (100 * mre + t)) (mrm mre)) (mpl + 1) 2 < 2 := gb211
        refine x_iastore C (f := (upz mtl i (numz (uz (fun t => mrw (100 * mre + t)) (mrm mre)) mpl 1))) 17 rfl (by omega) rfl (WM X.γ a mh mn mkd mfg mag mpo mwy mdy mhw mkk mkf mrs mrm mrw mth maw mgr mwa mre (mpl + 1 + (ldz (uz (fun t => mrw (100 * mre + t)) (mrm mre)) (mpl + 1) 2 : Int)) 1 msn mpn mlo (upz (upz mtl i (numz (uz (fun t => mrw (100 * mre + t)) (mrm mre)) mpl 1)) (i + 1) 0) mke mim mhi mp0 mtk mki mun msd mbe) rfl dX12_readNumbers_99 ?_
        refine x_goto C 122 (by decide) dX12_readNumbers_100 ?_
        exact hret _ _ _ dX12_readNumbers_122 (Or.inr (by have hT : ldz (uz (fun t => mrw (100 * mre + t)) (mrm mre)) mpl 3 = 1 + (ldz (uz (fun t => mrw (100 * mre + t)) (mrm mre)) (mpl + 1) 2) := (show ldz (uz (fun t => mrw (100 * mre + t)) (mrm mre)) mpl 3 = 1 + (ldz (uz (fun t => mrw (100 * mre + t)) (mrm mre)) (mpl + 1) 2) from (ldz_go2 (q := (mpl + 1)) 2 (by omega) gb210).trans (by rw [(show ldz (uz (fun t => mrw (100 * mre + t)) (mrm mre)) (mpl + 1) 2 = ldz (uz (fun t => mrw (100 * mre + t)) (mrm mre)) (mpl + 1) 2 from rfl)])); refine ⟨show ldz (uz (fun t => mrw (100 * mre + t)) (mrm mre)) mpl 3 < 3 from (by have := gb211; omega), (upz (upz mtl i (numz (uz (fun t => mrw (100 * mre + t)) (mrm mre)) mpl 1)) (i + 1) 0), ?_⟩; show _ = (WM X.γ a mh mn mkd mfg mag mpo mwy mdy mhw mkk mkf mrs mrm mrw mth maw mgr mwa mre (mpl + (ldz (uz (fun t => mrw (100 * mre + t)) (mrm mre)) mpl 3 : Int)) 1 msn mpn mlo (upz (upz mtl i (numz (uz (fun t => mrw (100 * mre + t)) (mrm mre)) mpl 1)) (i + 1) 0) mke mim mhi mp0 mtk mki mun msd mbe); rw [show (mpl + (ldz (uz (fun t => mrw (100 * mre + t)) (mrm mre)) mpl 3 : Int)) = mpl + 1 + (ldz (uz (fun t => mrw (100 * mre + t)) (mrm mre)) (mpl + 1) 2 : Int) from (by omega)]))
    · have gb210 : ldz (uz (fun t => mrw (100 * mre + t)) (mrm mre)) mpl 1 < 1 := gb210
      refine x_iastore C (f := mtl) 17 rfl (by omega) rfl (WM X.γ a mh mn mkd mfg mag mpo mwy mdy mhw mkk mkf mrs mrm mrw mth maw mgr mwa mre (mpl + (ldz (uz (fun t => mrw (100 * mre + t)) (mrm mre)) mpl 1 : Int)) 1 msn mpn mlo (upz mtl i 0) mke mim mhi mp0 mtk mki mun msd mbe) rfl dX12_readNumbers_26 ?_
      refine x_iload_n C 1 rfl rfl dX12_readNumbers_27 ?_
      refine x_bipush C (119) (by decide) dX12_readNumbers_28 ?_
      refine x_icmp_ne C 75 (by decide) (by decide) dX12_readNumbers_30 (fun _ => ?_) (fun z => absurd z (by decide))
      refine x_iload_n C 1 rfl rfl dX12_readNumbers_75 ?_
      refine x_bipush C (103) (by decide) dX12_readNumbers_76 ?_
      refine x_icmp_eq C 87 (by decide) (by decide) dX12_readNumbers_78 (fun z => absurd z (by decide)) (fun _ => ?_)
      refine x_iload_n C 1 rfl rfl dX12_readNumbers_81 ?_
      refine x_bipush C (109) (by decide) dX12_readNumbers_82 ?_
      refine x_icmp_ne C 103 (by decide) (by decide) dX12_readNumbers_84 (fun z => absurd z (by decide)) (fun _ => ?_)
      refine x_aload_n C 0 rfl rfl dX12_readNumbers_87 ?_
      refine x_get C in_X12_readNumbers_X12 0 rfl rfl 24 (by decide) (List.mem_of_getElem? (i := 1) rfl) rfl (v := .ref (a 17)) rfl dX12_readNumbers_88 ?_
      refine x_iload_n C 2 rfl rfl dX12_readNumbers_91 ?_
      refine x_iconst (v := 0) C dX12_readNumbers_92 ?_
      refine x_iadd C dX12_readNumbers_93 ?_
      refine x_aload_n C 0 rfl rfl dX12_readNumbers_94 ?_
      refine x_iconst (v := 0) C dX12_readNumbers_95 ?_
      refine x_V_I C (As := [.int (iN (2))]) (rest := [.int (iN (i + 1)), .ref (a 17)]) 1 0 rfl rfl gX12_readNumbers_X12_readDigits rfl (c_X12_readDigits_1 _ _ a mh mn mkd mfg mag mpo mwy mdy mhw mkk mkf mrs mrm mrw mth maw mgr mwa mre (mpl + (ldz (uz (fun t => mrw (100 * mre + t)) (mrm mre)) mpl 1 : Int)) msn mpn mlo (upz mtl i 0) mke mim mhi mp0 mtk mki mun msd mbe hM (2) (by omega) (by omega) (by omega)) rfl ok_X12_readDigits rfl rfl rfl rfl dX12_readNumbers_96 (fun r w1 hp => ?_)
      obtain ⟨rfl, rfl⟩ := hp
      show Wx X 0 0 (WM X.γ a mh mn mkd mfg mag mpo mwy mdy mhw mkk mkf mrs mrm mrw mth maw mgr mwa mre (mpl + (ldz (uz (fun t => mrw (100 * mre + t)) (mrm mre)) mpl 1 : Int)) 1 msn mpn mlo (upz mtl i 0) mke mim mhi mp0 mtk mki mun msd mbe) 99 [(0, .ref (a 0)), (1, .int (iN (109))), (2, .int (iN (i)))] [.int (iN (0)), .int (iN (i + 1)), .ref (a 17)]
      refine x_iastore C (f := (upz mtl i 0)) 17 rfl (by omega) rfl (WM X.γ a mh mn mkd mfg mag mpo mwy mdy mhw mkk mkf mrs mrm mrw mth maw mgr mwa mre (mpl + (ldz (uz (fun t => mrw (100 * mre + t)) (mrm mre)) mpl 1 : Int)) 1 msn mpn mlo (upz (upz mtl i 0) (i + 1) 0) mke mim mhi mp0 mtk mki mun msd mbe) rfl dX12_readNumbers_99 ?_
      refine x_goto C 122 (by decide) dX12_readNumbers_100 ?_
      exact hret _ _ _ dX12_readNumbers_122 (Or.inr (by have hT : ldz (uz (fun t => mrw (100 * mre + t)) (mrm mre)) mpl 3 = ldz (uz (fun t => mrw (100 * mre + t)) (mrm mre)) mpl 1 := (show ldz (uz (fun t => mrw (100 * mre + t)) (mrm mre)) mpl 3 = ldz (uz (fun t => mrw (100 * mre + t)) (mrm mre)) mpl 1 from (ldz_no 2 gb210)); refine ⟨show ldz (uz (fun t => mrw (100 * mre + t)) (mrm mre)) mpl 3 < 3 from (by have := gb210; omega), (upz (upz mtl i 0) (i + 1) 0), ?_⟩; show _ = (WM X.γ a mh mn mkd mfg mag mpo mwy mdy mhw mkk mkf mrs mrm mrw mth maw mgr mwa mre (mpl + (ldz (uz (fun t => mrw (100 * mre + t)) (mrm mre)) mpl 3 : Int)) 1 msn mpn mlo (upz (upz mtl i 0) (i + 1) 0) mke mim mhi mp0 mtk mki mun msd mbe); rw [show (mpl + (ldz (uz (fun t => mrw (100 * mre + t)) (mrm mre)) mpl 3 : Int)) = mpl + (ldz (uz (fun t => mrw (100 * mre + t)) (mrm mre)) mpl 1 : Int) from (by omega)]))
  · show Wx X 0 0 (WM X.γ a mh mn mkd mfg mag mpo mwy mdy mhw mkk mkf mrs mrm mrw mth maw mgr mwa mre mpl 0 msn mpn mlo mtl mke mim mhi mp0 mtk mki mun msd mbe) 0 [(0, .ref (a 0)), (1, .int (iN (121))), (2, .int (iN (i)))] []
    refine x_aload_n C 0 rfl rfl dX12_readNumbers_0 ?_
    refine x_get C in_X12_readNumbers_X12 0 rfl rfl 24 (by decide) (List.mem_of_getElem? (i := 1) rfl) rfl (v := .ref (a 17)) rfl dX12_readNumbers_1 ?_
    refine x_iload_n C 2 rfl rfl dX12_readNumbers_4 ?_
    refine x_aload_n C 0 rfl rfl dX12_readNumbers_5 ?_
    refine x_iload_n C 1 rfl rfl dX12_readNumbers_6 ?_
    refine x_bipush C (103) (by decide) dX12_readNumbers_7 ?_
    refine x_icmp_eq C 18 (by decide) (by decide) dX12_readNumbers_9 (fun z => absurd z (by decide)) (fun _ => ?_)
    refine x_iload_n C 1 rfl rfl dX12_readNumbers_12 ?_
    refine x_bipush C (100) (by decide) dX12_readNumbers_13 ?_
    refine x_icmp_ne C 22 (by decide) (by decide) dX12_readNumbers_15 (fun _ => ?_) (fun z => absurd z (by decide))
    refine x_iconst (v := 0) C dX12_readNumbers_22 ?_
    refine x_V_I C (As := [.int (iN (1))]) (rest := [.int (iN (i)), .ref (a 17)]) 1 0 rfl rfl gX12_readNumbers_X12_readDigits rfl (c_X12_readDigits_0 _ _ a mh mn mkd mfg mag mpo mwy mdy mhw mkk mkf mrs mrm mrw mth maw mgr mwa mre mpl msn mpn mlo mtl mke mim mhi mp0 mtk mki mun msd mbe hM (1) (by omega) (by omega) (by omega)) rfl ok_X12_readDigits rfl rfl rfl rfl dX12_readNumbers_23 (fun r w1 hp => ?_)
    rcases hp with ⟨gb212, rfl, rfl⟩ | ⟨gb212, rfl, rfl⟩
    · have gb212 : ldz (uz (fun t => mrw (100 * mre + t)) (mrm mre)) mpl 1 = 1 := gb212
      refine x_iastore C (f := mtl) 17 rfl (by omega) rfl (WM X.γ a mh mn mkd mfg mag mpo mwy mdy mhw mkk mkf mrs mrm mrw mth maw mgr mwa mre (mpl + 1) 0 msn mpn mlo (upz mtl i (numz (uz (fun t => mrw (100 * mre + t)) (mrm mre)) mpl 1)) mke mim mhi mp0 mtk mki mun msd mbe) rfl dX12_readNumbers_26 ?_
      refine x_iload_n C 1 rfl rfl dX12_readNumbers_27 ?_
      refine x_bipush C (119) (by decide) dX12_readNumbers_28 ?_
      refine x_icmp_ne C 75 (by decide) (by decide) dX12_readNumbers_30 (fun _ => ?_) (fun z => absurd z (by decide))
      refine x_iload_n C 1 rfl rfl dX12_readNumbers_75 ?_
      refine x_bipush C (103) (by decide) dX12_readNumbers_76 ?_
      refine x_icmp_eq C 87 (by decide) (by decide) dX12_readNumbers_78 (fun z => absurd z (by decide)) (fun _ => ?_)
      refine x_iload_n C 1 rfl rfl dX12_readNumbers_81 ?_
      refine x_bipush C (109) (by decide) dX12_readNumbers_82 ?_
      refine x_icmp_ne C 103 (by decide) (by decide) dX12_readNumbers_84 (fun _ => ?_) (fun z => absurd z (by decide))
      refine x_iload_n C 1 rfl rfl dX12_readNumbers_103 ?_
      refine x_bipush C (121) (by decide) dX12_readNumbers_104 ?_
      refine x_icmp_ne C 122 (by decide) (by decide) dX12_readNumbers_106 (fun z => absurd z (by decide)) (fun _ => ?_)
      refine x_aload_n C 0 rfl rfl dX12_readNumbers_109 ?_
      refine x_get C in_X12_readNumbers_X12 0 rfl rfl 24 (by decide) (List.mem_of_getElem? (i := 1) rfl) rfl (v := .ref (a 17)) rfl dX12_readNumbers_110 ?_
      refine x_iload_n C 2 rfl rfl dX12_readNumbers_113 ?_
      refine x_iconst (v := 0) C dX12_readNumbers_114 ?_
      refine x_iadd C dX12_readNumbers_115 ?_
      refine x_aload_n C 0 rfl rfl dX12_readNumbers_116 ?_
      refine x_iconst (v := 0) C dX12_readNumbers_117 ?_
      refine x_V_I C (As := [.int (iN (1))]) (rest := [.int (iN (i + 1)), .ref (a 17)]) 1 0 rfl rfl gX12_readNumbers_X12_readDigits rfl (c_X12_readDigits_0 _ _ a mh mn mkd mfg mag mpo mwy mdy mhw mkk mkf mrs mrm mrw mth maw mgr mwa mre (mpl + 1) msn mpn mlo (upz mtl i (numz (uz (fun t => mrw (100 * mre + t)) (mrm mre)) mpl 1)) mke mim mhi mp0 mtk mki mun msd mbe hM (1) (by omega) (by omega) (by omega)) rfl ok_X12_readDigits rfl rfl rfl rfl dX12_readNumbers_118 (fun r w1 hp => ?_)
      rcases hp with ⟨gb213, rfl, rfl⟩ | ⟨gb213, rfl, rfl⟩
      · have gb213 : ldz (uz (fun t => mrw (100 * mre + t)) (mrm mre)) (mpl + 1) 1 = 1 := gb213
        refine Wx.eqW (ws' := (WM X.γ a mh mn mkd mfg mag mpo mwy mdy mhw mkk mkf mrs mrm mrw mth maw mgr mwa mre (mpl + 2) 0 msn mpn mlo (upz mtl i (numz (uz (fun t => mrw (100 * mre + t)) (mrm mre)) mpl 1)) mke mim mhi mp0 mtk mki mun msd mbe)) (by rw [show mpl + 2 = mpl + 1 + 1 by omega]) ?_
        refine x_iastore C (f := (upz mtl i (numz (uz (fun t => mrw (100 * mre + t)) (mrm mre)) mpl 1))) 17 rfl (by omega) rfl (WM X.γ a mh mn mkd mfg mag mpo mwy mdy mhw mkk mkf mrs mrm mrw mth maw mgr mwa mre (mpl + 2) 0 msn mpn mlo (upz (upz mtl i (numz (uz (fun t => mrw (100 * mre + t)) (mrm mre)) mpl 1)) (i + 1) (numz (uz (fun t => mrw (100 * mre + t)) (mrm mre)) (mpl + 1) 1)) mke mim mhi mp0 mtk mki mun msd mbe) rfl dX12_readNumbers_121 ?_
        exact hret _ _ _ dX12_readNumbers_122 (Or.inl (by have hT : ldz (uz (fun t => mrw (100 * mre + t)) (mrm mre)) mpl 2 = 1 + (1) := (show ldz (uz (fun t => mrw (100 * mre + t)) (mrm mre)) mpl 2 = 1 + (1) from (ldz_go2 (q := (mpl + 1)) 1 (by omega) gb212).trans (by rw [(show ldz (uz (fun t => mrw (100 * mre + t)) (mrm mre)) (mpl + 1) 1 = 1 from gb213)])); exact ⟨hT, (upz (upz mtl i (numz (uz (fun t => mrw (100 * mre + t)) (mrm mre)) mpl 1)) (i + 1) (numz (uz (fun t => mrw (100 * mre + t)) (mrm mre)) (mpl + 1) 1)), fun j hj => by rw [upz_n (by omega), upz_n (by omega)], ⟨by rw [upz_n (by omega), upz_s]; rfl, fun _ => by rw [upz_s]; rfl, fun z => absurd z (by decide)⟩, rfl⟩))
      · have gb213 : ldz (uz (fun t => mrw (100 * mre + t)) (mrm mre)) (mpl + 1) 1 < 1 := gb213
        refine x_iastore C (f := (upz mtl i (numz (uz (fun t => mrw (100 * mre + t)) (mrm mre)) mpl 1))) 17 rfl (by omega) rfl (WM X.γ a mh mn mkd mfg mag mpo mwy mdy mhw mkk mkf mrs mrm mrw mth maw mgr mwa mre (mpl + 1 + (ldz (uz (fun t => mrw (100 * mre + t)) (mrm mre)) (mpl + 1) 1 : Int)) 1 msn mpn mlo (upz (upz mtl i (numz (uz (fun t => mrw (100 * mre + t)) (mrm mre)) mpl 1)) (i + 1) 0) mke mim mhi mp0 mtk mki mun msd mbe) rfl dX12_readNumbers_121 ?_
        exact hret _ _ _ dX12_readNumbers_122 (Or.inr (by have hT : ldz (uz (fun t => mrw (100 * mre + t)) (mrm mre)) mpl 2 = 1 + (ldz (uz (fun t => mrw (100 * mre + t)) (mrm mre)) (mpl + 1) 1) := (show ldz (uz (fun t => mrw (100 * mre + t)) (mrm mre)) mpl 2 = 1 + (ldz (uz (fun t => mrw (100 * mre + t)) (mrm mre)) (mpl + 1) 1) from (ldz_go2 (q := (mpl + 1)) 1 (by omega) gb212).trans (by rw [(show ldz (uz (fun t => mrw (100 * mre + t)) (mrm mre)) (mpl + 1) 1 = ldz (uz (fun t => mrw (100 * mre + t)) (mrm mre)) (mpl + 1) 1 from rfl)])); refine ⟨show ldz (uz (fun t => mrw (100 * mre + t)) (mrm mre)) mpl 2 < 2 from (by have := gb213; omega), (upz (upz mtl i (numz (uz (fun t => mrw (100 * mre + t)) (mrm mre)) mpl 1)) (i + 1) 0), ?_⟩; show _ = (WM X.γ a mh mn mkd mfg mag mpo mwy mdy mhw mkk mkf mrs mrm mrw mth maw mgr mwa mre (mpl + (ldz (uz (fun t => mrw (100 * mre + t)) (mrm mre)) mpl 2 : Int)) 1 msn mpn mlo (upz (upz mtl i (numz (uz (fun t => mrw (100 * mre + t)) (mrm mre)) mpl 1)) (i + 1) 0) mke mim mhi mp0 mtk mki mun msd mbe); rw [show (mpl + (ldz (uz (fun t => mrw (100 * mre + t)) (mrm mre)) mpl 2 : Int)) = mpl + 1 + (ldz (uz (fun t => mrw (100 * mre + t)) (mrm mre)) (mpl + 1) 1 : Int) from (by omega)]))
    · have gb212 : ldz (uz (fun t => mrw (100 * mre + t)) (mrm mre)) mpl 1 < 1 := gb212
      refine x_iastore C (f := mtl) 17 rfl (by omega) rfl (WM X.γ a mh mn mkd mfg mag mpo mwy mdy mhw mkk mkf mrs mrm mrw mth maw mgr mwa mre (mpl + (ldz (uz (fun t => mrw (100 * mre + t)) (mrm mre)) mpl 1 : Int)) 1 msn mpn mlo (upz mtl i 0) mke mim mhi mp0 mtk mki mun msd mbe) rfl dX12_readNumbers_26 ?_
      refine x_iload_n C 1 rfl rfl dX12_readNumbers_27 ?_
      refine x_bipush C (119) (by decide) dX12_readNumbers_28 ?_
      refine x_icmp_ne C 75 (by decide) (by decide) dX12_readNumbers_30 (fun _ => ?_) (fun z => absurd z (by decide))
      refine x_iload_n C 1 rfl rfl dX12_readNumbers_75 ?_
      refine x_bipush C (103) (by decide) dX12_readNumbers_76 ?_
      refine x_icmp_eq C 87 (by decide) (by decide) dX12_readNumbers_78 (fun z => absurd z (by decide)) (fun _ => ?_)
      refine x_iload_n C 1 rfl rfl dX12_readNumbers_81 ?_
      refine x_bipush C (109) (by decide) dX12_readNumbers_82 ?_
      refine x_icmp_ne C 103 (by decide) (by decide) dX12_readNumbers_84 (fun _ => ?_) (fun z => absurd z (by decide))
      refine x_iload_n C 1 rfl rfl dX12_readNumbers_103 ?_
      refine x_bipush C (121) (by decide) dX12_readNumbers_104 ?_
      refine x_icmp_ne C 122 (by decide) (by decide) dX12_readNumbers_106 (fun z => absurd z (by decide)) (fun _ => ?_)
      refine x_aload_n C 0 rfl rfl dX12_readNumbers_109 ?_
      refine x_get C in_X12_readNumbers_X12 0 rfl rfl 24 (by decide) (List.mem_of_getElem? (i := 1) rfl) rfl (v := .ref (a 17)) rfl dX12_readNumbers_110 ?_
      refine x_iload_n C 2 rfl rfl dX12_readNumbers_113 ?_
      refine x_iconst (v := 0) C dX12_readNumbers_114 ?_
      refine x_iadd C dX12_readNumbers_115 ?_
      refine x_aload_n C 0 rfl rfl dX12_readNumbers_116 ?_
      refine x_iconst (v := 0) C dX12_readNumbers_117 ?_
      refine x_V_I C (As := [.int (iN (1))]) (rest := [.int (iN (i + 1)), .ref (a 17)]) 1 0 rfl rfl gX12_readNumbers_X12_readDigits rfl (c_X12_readDigits_1 _ _ a mh mn mkd mfg mag mpo mwy mdy mhw mkk mkf mrs mrm mrw mth maw mgr mwa mre (mpl + (ldz (uz (fun t => mrw (100 * mre + t)) (mrm mre)) mpl 1 : Int)) msn mpn mlo (upz mtl i 0) mke mim mhi mp0 mtk mki mun msd mbe hM (1) (by omega) (by omega) (by omega)) rfl ok_X12_readDigits rfl rfl rfl rfl dX12_readNumbers_118 (fun r w1 hp => ?_)
      obtain ⟨rfl, rfl⟩ := hp
      show Wx X 0 0 (WM X.γ a mh mn mkd mfg mag mpo mwy mdy mhw mkk mkf mrs mrm mrw mth maw mgr mwa mre (mpl + (ldz (uz (fun t => mrw (100 * mre + t)) (mrm mre)) mpl 1 : Int)) 1 msn mpn mlo (upz mtl i 0) mke mim mhi mp0 mtk mki mun msd mbe) 121 [(0, .ref (a 0)), (1, .int (iN (121))), (2, .int (iN (i)))] [.int (iN (0)), .int (iN (i + 1)), .ref (a 17)]
      refine x_iastore C (f := (upz mtl i 0)) 17 rfl (by omega) rfl (WM X.γ a mh mn mkd mfg mag mpo mwy mdy mhw mkk mkf mrs mrm mrw mth maw mgr mwa mre (mpl + (ldz (uz (fun t => mrw (100 * mre + t)) (mrm mre)) mpl 1 : Int)) 1 msn mpn mlo (upz (upz mtl i 0) (i + 1) 0) mke mim mhi mp0 mtk mki mun msd mbe) rfl dX12_readNumbers_121 ?_
      exact hret _ _ _ dX12_readNumbers_122 (Or.inr (by have hT : ldz (uz (fun t => mrw (100 * mre + t)) (mrm mre)) mpl 2 = ldz (uz (fun t => mrw (100 * mre + t)) (mrm mre)) mpl 1 := (show ldz (uz (fun t => mrw (100 * mre + t)) (mrm mre)) mpl 2 = ldz (uz (fun t => mrw (100 * mre + t)) (mrm mre)) mpl 1 from (ldz_no 1 gb212)); refine ⟨show ldz (uz (fun t => mrw (100 * mre + t)) (mrm mre)) mpl 2 < 2 from (by have := gb212; omega), (upz (upz mtl i 0) (i + 1) 0), ?_⟩; show _ = (WM X.γ a mh mn mkd mfg mag mpo mwy mdy mhw mkk mkf mrs mrm mrw mth maw mgr mwa mre (mpl + (ldz (uz (fun t => mrw (100 * mre + t)) (mrm mre)) mpl 2 : Int)) 1 msn mpn mlo (upz (upz mtl i 0) (i + 1) 0) mke mim mhi mp0 mtk mki mun msd mbe); rw [show (mpl + (ldz (uz (fun t => mrw (100 * mre + t)) (mrm mre)) mpl 2 : Int)) = mpl + (ldz (uz (fun t => mrw (100 * mre + t)) (mrm mre)) mpl 1 : Int) from (by omega)]))
  · show Wx X 0 0 (WM X.γ a mh mn mkd mfg mag mpo mwy mdy mhw mkk mkf mrs mrm mrw mth maw mgr mwa mre mpl 0 msn mpn mlo mtl mke mim mhi mp0 mtk mki mun msd mbe) 0 [(0, .ref (a 0)), (1, .int (iN (100))), (2, .int (iN (i)))] []
    refine x_aload_n C 0 rfl rfl dX12_readNumbers_0 ?_
    refine x_get C in_X12_readNumbers_X12 0 rfl rfl 24 (by decide) (List.mem_of_getElem? (i := 1) rfl) rfl (v := .ref (a 17)) rfl dX12_readNumbers_1 ?_
    refine x_iload_n C 2 rfl rfl dX12_readNumbers_4 ?_
    refine x_aload_n C 0 rfl rfl dX12_readNumbers_5 ?_
    refine x_iload_n C 1 rfl rfl dX12_readNumbers_6 ?_
    refine x_bipush C (103) (by decide) dX12_readNumbers_7 ?_
    refine x_icmp_eq C 18 (by decide) (by decide) dX12_readNumbers_9 (fun z => absurd z (by decide)) (fun _ => ?_)
    refine x_iload_n C 1 rfl rfl dX12_readNumbers_12 ?_
    refine x_bipush C (100) (by decide) dX12_readNumbers_13 ?_
    refine x_icmp_ne C 22 (by decide) (by decide) dX12_readNumbers_15 (fun z => absurd z (by decide)) (fun _ => ?_)
    refine x_iconst (v := 0) C dX12_readNumbers_18 ?_
    refine x_goto C 23 (by decide) dX12_readNumbers_19 ?_
    refine x_V_I C (As := [.int (iN (2))]) (rest := [.int (iN (i)), .ref (a 17)]) 1 0 rfl rfl gX12_readNumbers_X12_readDigits rfl (c_X12_readDigits_0 _ _ a mh mn mkd mfg mag mpo mwy mdy mhw mkk mkf mrs mrm mrw mth maw mgr mwa mre mpl msn mpn mlo mtl mke mim mhi mp0 mtk mki mun msd mbe hM (2) (by omega) (by omega) (by omega)) rfl ok_X12_readDigits rfl rfl rfl rfl dX12_readNumbers_23 (fun r w1 hp => ?_)
    rcases hp with ⟨gb214, rfl, rfl⟩ | ⟨gb214, rfl, rfl⟩
    · have gb214 : ldz (uz (fun t => mrw (100 * mre + t)) (mrm mre)) mpl 2 = 2 := gb214
      refine x_iastore C (f := mtl) 17 rfl (by omega) rfl (WM X.γ a mh mn mkd mfg mag mpo mwy mdy mhw mkk mkf mrs mrm mrw mth maw mgr mwa mre (mpl + 2) 0 msn mpn mlo (upz mtl i (numz (uz (fun t => mrw (100 * mre + t)) (mrm mre)) mpl 2)) mke mim mhi mp0 mtk mki mun msd mbe) rfl dX12_readNumbers_26 ?_
      refine x_iload_n C 1 rfl rfl dX12_readNumbers_27 ?_
      refine x_bipush C (119) (by decide) dX12_readNumbers_28 ?_
      refine x_icmp_ne C 75 (by decide) (by decide) dX12_readNumbers_30 (fun _ => ?_) (fun z => absurd z (by decide))
      refine x_iload_n C 1 rfl rfl dX12_readNumbers_75 ?_
      refine x_bipush C (103) (by decide) dX12_readNumbers_76 ?_
      refine x_icmp_eq C 87 (by decide) (by decide) dX12_readNumbers_78 (fun z => absurd z (by decide)) (fun _ => ?_)
      refine x_iload_n C 1 rfl rfl dX12_readNumbers_81 ?_
      refine x_bipush C (109) (by decide) dX12_readNumbers_82 ?_
      refine x_icmp_ne C 103 (by decide) (by decide) dX12_readNumbers_84 (fun _ => ?_) (fun z => absurd z (by decide))
      refine x_iload_n C 1 rfl rfl dX12_readNumbers_103 ?_
      refine x_bipush C (121) (by decide) dX12_readNumbers_104 ?_
      refine x_icmp_ne C 122 (by decide) (by decide) dX12_readNumbers_106 (fun _ => ?_) (fun z => absurd z (by decide))
      exact hret _ _ _ dX12_readNumbers_122 (Or.inl (by have hT : ldz (uz (fun t => mrw (100 * mre + t)) (mrm mre)) mpl 2 = 2 := (show ldz (uz (fun t => mrw (100 * mre + t)) (mrm mre)) mpl 2 = 2 from gb214); exact ⟨hT, (upz mtl i (numz (uz (fun t => mrw (100 * mre + t)) (mrm mre)) mpl 2)), fun j hj => by rw [upz_n (by omega)], ⟨by rw [upz_s]; rfl, fun z => absurd rfl z, fun z => absurd z (by decide)⟩, rfl⟩))
    · have gb214 : ldz (uz (fun t => mrw (100 * mre + t)) (mrm mre)) mpl 2 < 2 := gb214
      refine x_iastore C (f := mtl) 17 rfl (by omega) rfl (WM X.γ a mh mn mkd mfg mag mpo mwy mdy mhw mkk mkf mrs mrm mrw mth maw mgr mwa mre (mpl + (ldz (uz (fun t => mrw (100 * mre + t)) (mrm mre)) mpl 2 : Int)) 1 msn mpn mlo (upz mtl i 0) mke mim mhi mp0 mtk mki mun msd mbe) rfl dX12_readNumbers_26 ?_
      refine x_iload_n C 1 rfl rfl dX12_readNumbers_27 ?_
      refine x_bipush C (119) (by decide) dX12_readNumbers_28 ?_
      refine x_icmp_ne C 75 (by decide) (by decide) dX12_readNumbers_30 (fun _ => ?_) (fun z => absurd z (by decide))
      refine x_iload_n C 1 rfl rfl dX12_readNumbers_75 ?_
      refine x_bipush C (103) (by decide) dX12_readNumbers_76 ?_
      refine x_icmp_eq C 87 (by decide) (by decide) dX12_readNumbers_78 (fun z => absurd z (by decide)) (fun _ => ?_)
      refine x_iload_n C 1 rfl rfl dX12_readNumbers_81 ?_
      refine x_bipush C (109) (by decide) dX12_readNumbers_82 ?_
      refine x_icmp_ne C 103 (by decide) (by decide) dX12_readNumbers_84 (fun _ => ?_) (fun z => absurd z (by decide))
      refine x_iload_n C 1 rfl rfl dX12_readNumbers_103 ?_
      refine x_bipush C (121) (by decide) dX12_readNumbers_104 ?_
      refine x_icmp_ne C 122 (by decide) (by decide) dX12_readNumbers_106 (fun _ => ?_) (fun z => absurd z (by decide))
      exact hret _ _ _ dX12_readNumbers_122 (Or.inr (by have hT : ldz (uz (fun t => mrw (100 * mre + t)) (mrm mre)) mpl 2 = ldz (uz (fun t => mrw (100 * mre + t)) (mrm mre)) mpl 2 := (show ldz (uz (fun t => mrw (100 * mre + t)) (mrm mre)) mpl 2 = ldz (uz (fun t => mrw (100 * mre + t)) (mrm mre)) mpl 2 from rfl); refine ⟨show ldz (uz (fun t => mrw (100 * mre + t)) (mrm mre)) mpl 2 < 2 from (by have := gb214; omega), (upz mtl i 0), ?_⟩; show _ = (WM X.γ a mh mn mkd mfg mag mpo mwy mdy mhw mkk mkf mrs mrm mrw mth maw mgr mwa mre (mpl + (ldz (uz (fun t => mrw (100 * mre + t)) (mrm mre)) mpl 2 : Int)) 1 msn mpn mlo (upz mtl i 0) mke mim mhi mp0 mtk mki mun msd mbe); rw [show (mpl + (ldz (uz (fun t => mrw (100 * mre + t)) (mrm mre)) mpl 2 : Int)) = mpl + (ldz (uz (fun t => mrw (100 * mre + t)) (mrm mre)) mpl 2 : Int) from (by omega)]))
end HREAac
