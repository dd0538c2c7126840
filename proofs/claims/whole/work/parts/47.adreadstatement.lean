section HREAad
theorem in_X12_readStatement_X12 : ∀ w ∈ u_ws RX12 TX12 34, w ∈ wsX12_readStatement := by decide +kernel
theorem ok_X12_readStatement : okY yX12_readStatement 0 := by decide +kernel
def rmX12_readStatement : Room := { frames := 3, cells := 0, slots := 0, locals := 70 }
set_option maxRecDepth 100000 in
set_option maxHeartbeats 400000 in
theorem c_X12_readStatement (l : Launch) (γ : GX) (a : Nat → Nat) (mh : Int → Int) (mn : Int) (mkd : Int → Int) (mfg : Int → Int) (mag : Int → Int) (mpo : Int → Int) (mwy : Int → Int) (mdy : Int) (mhw : Int → Int) (mkk : Int → Int) (mkf : Int → Int) (mrs : Int → Int) (mrm : Int → Int) (mrw : Int → Int) (mth : Int) (maw : Int) (mgr : Int → Int) (mwa : Int → Int) (mre : Int) (mpl : Int) (msn : Int) (mpn : Int → Int) (mlo : Int → Int) (mtl : Int → Int) (mke : Int → Int) (mim : Int → Int) (mhi : Int) (mp0 : Int) (mtk : Int) (mki : Value) (mun : Int → Int) (msd : Int) (mbe : Int → Int) (hM : WFm mn mh mkd mfg mag mpo mwy mhw mkk mkf mrs mrm mrw) (h0_ : 0 ≤ msn ∧ msn ≤ 24) (h1_ : 0 ≤ mre ∧ mre ≤ 7) (h2_ : 0 ≤ mpl ∧ mpl ≤ 100) : MV l γ yX12_readStatement wsX12_readStatement rmX12_readStatement [.ref (a 0)] (WM γ a mh mn mkd mfg mag mpo mwy mdy mhw mkk mkf mrs mrm mrw mth maw mgr mwa mre mpl 0 msn mpn mlo mtl mke mim mhi mp0 mtk mki mun msd mbe) (fun w_ => (sbad (uz (fun t => mrw (100 * mre + t)) (mrm mre)) mpl = -1 ∧ ∃ TL, (∀ j : Int, j < 4 * msn → TL j = mtl j) ∧ tldI (uz (fun t => mrw (100 * mre + t)) (mrm mre)) ((uz (fun t => mrw (100 * mre + t)) (mrm mre)) mpl) (mpl + 1) TL (4 * msn) ∧ w_ = (WM γ a mh mn mkd mfg mag mpo mwy mdy mhw mkk mkf mrs mrm mrw mth maw mgr mwa mre (mpl + dgz ((uz (fun t => mrw (100 * mre + t)) (mrm mre)) mpl) + 2) 0 (msn + 1) (upz mpn msn mpl) (upz mlo msn ((uz (fun t => mrw (100 * mre + t)) (mrm mre)) mpl)) TL mke mim mhi mp0 mtk mki mun msd mbe)) ∨ (0 ≤ sbad (uz (fun t => mrw (100 * mre + t)) (mrm mre)) mpl ∧ ∃ LO TL, w_ = (WM γ a mh mn mkd mfg mag mpo mwy mdy mhw mkk mkf mrs mrm mrw mth maw mgr mwa mre (sbad (uz (fun t => mrw (100 * mre + t)) (mrm mre)) mpl) 1 (msn + 1) (upz mpn msn mpl) LO TL mke mim mhi mp0 mtk mki mun msd mbe))) 0 0 := by
  refine MV.of (cc := cX12_readStatement) (maxL := 3) RX12 rfl (by decide +kernel) rfl (Nat.le_of_ble_eq_true rfl) ?_
  intro X C hγ hl hnm hret
  subst hγ
  have hMn := WFm.n hM
  show Wx X 0 0 (WM X.γ a mh mn mkd mfg mag mpo mwy mdy mhw mkk mkf mrs mrm mrw mth maw mgr mwa mre mpl 0 msn mpn mlo mtl mke mim mhi mp0 mtk mki mun msd mbe) 0 [(0, .ref (a 0))] []
  refine x_aload_n C 0 rfl rfl dX12_readStatement_0 ?_
  refine x_get C in_X12_readStatement_X12 0 rfl rfl 21 (by decide) (List.mem_of_getElem? (i := 1) rfl) rfl (v := .int (iN (msn))) rfl dX12_readStatement_1 ?_
  refine x_istore_n C [(1, .int (iN (msn))), (0, .ref (a 0))] rfl (by decide) rfl dX12_readStatement_4 ?_
  refine x_aload_n C 1 rfl rfl dX12_readStatement_5 ?_
  refine x_V_I C (As := []) (rest := []) 0 0 rfl rfl gX12_readStatement_X12_here rfl (c_X12_here _ _ a mh mn mkd mfg mag mpo mwy mdy mhw mkk mkf mrs mrm mrw mth maw mgr mwa mre mpl 0 msn mpn mlo mtl mke mim mhi mp0 mtk mki mun msd mbe hM (by omega) (by omega)) rfl ok_X12_here rfl rfl rfl rfl dX12_readStatement_6 (fun r w1 hp => ?_)
  obtain ⟨qb215, rfl⟩ := hp
  obtain ⟨hb215, zb215⟩ : ∃ z : Int, z = r := ⟨r, rfl⟩
  rw [← zb215]
  have ub215 := here_u (v := (fun t => mrw (100 * mre + t))) (sz := mrm mre) (p := mpl) (by omega) (zb215.trans qb215)
  have vb215 := uz_b (v := (fun t => mrw (100 * mre + t))) (sz := mrm mre) (i := mpl) (WFm.rw hM _)
  show Wx X 0 0 (WM X.γ a mh mn mkd mfg mag mpo mwy mdy mhw mkk mkf mrs mrm mrw mth maw mgr mwa mre mpl 0 msn mpn mlo mtl mke mim mhi mp0 mtk mki mun msd mbe) 9 [(1, .int (iN (msn))), (0, .ref (a 0))] [.int (iN (hb215))]
  refine x_istore_n C [(2, .int (iN (hb215))), (1, .int (iN (msn))), (0, .ref (a 0))] rfl (by decide) rfl dX12_readStatement_9 ?_
  refine x_aload_n C 2 rfl rfl dX12_readStatement_10 ?_
  refine x_get C in_X12_readStatement_X12 0 rfl rfl 22 (by decide) (List.mem_of_getElem? (i := 2) rfl) rfl (v := .ref (a 15)) rfl dX12_readStatement_11 ?_
  refine x_iload_n C 1 rfl rfl dX12_readStatement_14 ?_
  refine x_aload_n C 2 rfl rfl dX12_readStatement_15 ?_
  refine x_get C in_X12_readStatement_X12 0 rfl rfl 19 (by decide) (List.mem_of_getElem? (i := 3) rfl) rfl (v := .int (iN (mpl))) rfl dX12_readStatement_16 ?_
  refine x_iastore C (f := mpn) 15 rfl (by omega) rfl (WM X.γ a mh mn mkd mfg mag mpo mwy mdy mhw mkk mkf mrs mrm mrw mth maw mgr mwa mre mpl 0 msn (upz mpn msn mpl) mlo mtl mke mim mhi mp0 mtk mki mun msd mbe) rfl dX12_readStatement_19 ?_
  refine x_aload_n C 2 rfl rfl dX12_readStatement_20 ?_
  refine x_get C in_X12_readStatement_X12 0 rfl rfl 23 (by decide) (List.mem_of_getElem? (i := 4) rfl) rfl (v := .ref (a 16)) rfl dX12_readStatement_21 ?_
  refine x_iload_n C 1 rfl rfl dX12_readStatement_24 ?_
  refine x_iload_n C 0 rfl rfl dX12_readStatement_25 ?_
  refine x_iastore C (f := mlo) 16 rfl (by omega) rfl (WM X.γ a mh mn mkd mfg mag mpo mwy mdy mhw mkk mkf mrs mrm mrw mth maw mgr mwa mre mpl 0 msn (upz mpn msn mpl) (upz mlo msn hb215) mtl mke mim mhi mp0 mtk mki mun msd mbe) rfl dX12_readStatement_26 ?_
  refine x_aload_n C 2 rfl rfl dX12_readStatement_27 ?_
  refine x_aload_n C 2 rfl rfl dX12_readStatement_28 ?_
  refine x_get C in_X12_readStatement_X12 0 rfl rfl 20 (by decide) (List.mem_of_getElem? (i := 5) rfl) rfl (v := .int (iN (0))) rfl dX12_readStatement_29 ?_
  refine x_if_ne C 42 (by decide) (by decide) dX12_readStatement_32 (fun z => absurd z (by decide)) (fun _ => ?_)
  refine x_iload_n C 0 rfl rfl dX12_readStatement_35 ?_
  refine x_S_I C (As := [.int (iN (hb215))]) (rest := [.ref (a 0)]) 1 gX12_readStatement_X12_isLetter (c_X12_isLetter _ _ (WM X.γ a mh mn mkd mfg mag mpo mwy mdy mhw mkk mkf mrs mrm mrw mth maw mgr mwa mre mpl 0 msn (upz mpn msn mpl) (upz mlo msn hb215) mtl mke mim mhi mp0 mtk mki mun msd mbe) (hb215) (by omega)) rfl ok_X12_isLetter rfl rfl rfl rfl dX12_readStatement_36 (fun r w1 hp => ?_)
  obtain ⟨rfl, rfl⟩ := hp
  refine x_ifne_bz C 46 (by decide) dX12_readStatement_39 (fun c_39 => ?_) (fun c_39 => ?_)
  · have hq : hb215 = (uz (fun t => mrw (100 * mre + t)) (mrm mre)) mpl := by rcases ub215 with q | ⟨q, _⟩; exact q; (exfalso; rw [q] at c_39; exact absurd c_39 (by decide))
    subst hq
    have hlet := dgz_let c_39
    have hdb := dgz_b ((uz (fun t => mrw (100 * mre + t)) (mrm mre)) mpl)
    show Wx X 0 0 (WM X.γ a mh mn mkd mfg mag mpo mwy mdy mhw mkk mkf mrs mrm mrw mth maw mgr mwa mre mpl 0 msn (upz mpn msn mpl) (upz mlo msn ((uz (fun t => mrw (100 * mre + t)) (mrm mre)) mpl)) mtl mke mim mhi mp0 mtk mki mun msd mbe) 46 [(2, .int (iN (((uz (fun t => mrw (100 * mre + t)) (mrm mre)) mpl)))), (1, .int (iN (msn))), (0, .ref (a 0))] [.ref (a 0)]
    refine x_iconst (v := 0) C dX12_readStatement_46 ?_
    refine x_put C in_X12_readStatement_X12 tyX12 tyX12_ok nmX12 0 rfl rfl 20 (by decide) (List.mem_of_getElem? (i := 5) rfl) rfl rfl rfl (nar_z (by decide)) (fits_z (by decide)) (Nat.le_of_ble_eq_true rfl) (WM X.γ a mh mn mkd mfg mag mpo mwy mdy mhw mkk mkf mrs mrm mrw mth maw mgr mwa mre mpl 0 msn (upz mpn msn mpl) (upz mlo msn ((uz (fun t => mrw (100 * mre + t)) (mrm mre)) mpl)) mtl mke mim mhi mp0 mtk mki mun msd mbe) rfl dX12_readStatement_47 ?_
    refine x_aload_n C 2 rfl rfl dX12_readStatement_50 ?_
    refine x_dup C rfl dX12_readStatement_51 ?_
    refine x_get C in_X12_readStatement_X12 0 rfl rfl 19 (by decide) (List.mem_of_getElem? (i := 3) rfl) rfl (v := .int (iN (mpl))) rfl dX12_readStatement_52 ?_
    refine x_aload_n C 2 rfl rfl dX12_readStatement_55 ?_
    refine x_get C in_X12_readStatement_X12 0 rfl rfl 20 (by decide) (List.mem_of_getElem? (i := 5) rfl) rfl (v := .int (iN (0))) rfl dX12_readStatement_56 ?_
    refine x_if_eq C 66 (by decide) (by decide) dX12_readStatement_59 (fun _ => ?_) (fun z => absurd z (by decide))
    refine x_iconst (v := 0) C dX12_readStatement_66 ?_
    refine x_iadd C dX12_readStatement_67 ?_
    refine x_put C in_X12_readStatement_X12 tyX12 tyX12_ok nmX12 0 rfl rfl 19 (by decide) (List.mem_of_getElem? (i := 3) rfl) rfl rfl rfl rfl rfl (Nat.le_of_ble_eq_true rfl) (WM X.γ a mh mn mkd mfg mag mpo mwy mdy mhw mkk mkf mrs mrm mrw mth maw mgr mwa mre (mpl + 1) 0 msn (upz mpn msn mpl) (upz mlo msn ((uz (fun t => mrw (100 * mre + t)) (mrm mre)) mpl)) mtl mke mim mhi mp0 mtk mki mun msd mbe) rfl dX12_readStatement_68 ?_
    refine x_aload_n C 2 rfl rfl dX12_readStatement_71 ?_
    refine x_get C in_X12_readStatement_X12 0 rfl rfl 20 (by decide) (List.mem_of_getElem? (i := 5) rfl) rfl (v := .int (iN (0))) rfl dX12_readStatement_72 ?_
    refine x_if_ne C 86 (by decide) (by decide) dX12_readStatement_75 (fun z => absurd z (by decide)) (fun _ => ?_)
    refine x_aload_n C 2 rfl rfl dX12_readStatement_78 ?_
    refine x_iload_n C 0 rfl rfl dX12_readStatement_79 ?_
    refine x_iconst (v := 0) C dX12_readStatement_80 ?_
    refine x_iload_n C 1 rfl rfl dX12_readStatement_81 ?_
    refine x_imul C dX12_readStatement_82 ?_
    refine x_V_V C (As := [.int (iN (((uz (fun t => mrw (100 * mre + t)) (mrm mre)) mpl))), .int (iN (4 * msn))]) (rest := []) 2 0 rfl rfl gX12_readStatement_X12_readNumbers rfl (c_X12_readNumbers _ _ a mh mn mkd mfg mag mpo mwy mdy mhw mkk mkf mrs mrm mrw mth maw mgr mwa mre (mpl + 1) msn (upz mpn msn mpl) (upz mlo msn ((uz (fun t => mrw (100 * mre + t)) (mrm mre)) mpl)) mtl mke mim mhi mp0 mtk mki mun msd mbe hM (((uz (fun t => mrw (100 * mre + t)) (mrm mre)) mpl)) (4 * msn) (by omega) (by omega) (by omega) (by omega)) rfl ok_X12_readNumbers rfl rfl rfl rfl dX12_readStatement_83 (fun w1 hp => ?_)
    rcases hp with ⟨gb216, TLb216, fb216, tb216, rfl⟩ | ⟨gb216, TLb216, rfl⟩
    · refine x_aload_n C 2 rfl rfl dX12_readStatement_86 ?_
      refine x_aload_n C 2 rfl rfl dX12_readStatement_87 ?_
      refine x_get C in_X12_readStatement_X12 0 rfl rfl 20 (by decide) (List.mem_of_getElem? (i := 5) rfl) rfl (v := .int (iN (0))) rfl dX12_readStatement_88 ?_
      refine x_if_ne C 103 (by decide) (by decide) dX12_readStatement_91 (fun z => absurd z (by decide)) (fun _ => ?_)
      refine x_aload_n C 2 rfl rfl dX12_readStatement_94 ?_
      refine x_V_I C (As := []) (rest := [.ref (a 0)]) 0 0 rfl rfl gX12_readStatement_X12_here rfl (c_X12_here _ _ a mh mn mkd mfg mag mpo mwy mdy mhw mkk mkf mrs mrm mrw mth maw mgr mwa mre (mpl + 1 + dgz (((uz (fun t => mrw (100 * mre + t)) (mrm mre)) mpl))) 0 msn (upz mpn msn mpl) (upz mlo msn ((uz (fun t => mrw (100 * mre + t)) (mrm mre)) mpl)) TLb216 mke mim mhi mp0 mtk mki mun msd mbe hM (by omega) (by omega)) rfl ok_X12_here rfl rfl rfl rfl dX12_readStatement_95 (fun r w1 hp => ?_)
      obtain ⟨qb217, rfl⟩ := hp
      obtain ⟨hb217, zb217⟩ : ∃ z : Int, z = r := ⟨r, rfl⟩
      rw [← zb217]
      have ub217 := here_u (v := (fun t => mrw (100 * mre + t))) (sz := mrm mre) (p := (mpl + 1 + dgz (((uz (fun t => mrw (100 * mre + t)) (mrm mre)) mpl)))) (by omega) (zb217.trans qb217)
      have vb217 := uz_b (v := (fun t => mrw (100 * mre + t))) (sz := mrm mre) (i := (mpl + 1 + dgz (((uz (fun t => mrw (100 * mre + t)) (mrm mre)) mpl)))) (WFm.rw hM _)
      show Wx X 0 0 (WM X.γ a mh mn mkd mfg mag mpo mwy mdy mhw mkk mkf mrs mrm mrw mth maw mgr mwa mre (mpl + 1 + dgz (((uz (fun t => mrw (100 * mre + t)) (mrm mre)) mpl))) 0 msn (upz mpn msn mpl) (upz mlo msn ((uz (fun t => mrw (100 * mre + t)) (mrm mre)) mpl)) TLb216 mke mim mhi mp0 mtk mki mun msd mbe) 98 [(2, .int (iN (((uz (fun t => mrw (100 * mre + t)) (mrm mre)) mpl)))), (1, .int (iN (msn))), (0, .ref (a 0))] [.int (iN (hb217)), .ref (a 0)]
      refine x_bipush C (59) (by decide) dX12_readStatement_98 ?_
      refine x_icmp_eq C 107 (by decide) (by omega) dX12_readStatement_100 (fun c_100 => ?_) (fun c_100 => ?_)
      · have hsb : sbad (uz (fun t => mrw (100 * mre + t)) (mrm mre)) mpl = -1 := by unfold sbad; rw [if_neg (show ¬ dgz ((uz (fun t => mrw (100 * mre + t)) (mrm mre)) mpl) < 0 by omega), if_neg (show ¬ ldz (uz (fun t => mrw (100 * mre + t)) (mrm mre)) (mpl + 1) (dgz ((uz (fun t => mrw (100 * mre + t)) (mrm mre)) mpl)).toNat < (dgz ((uz (fun t => mrw (100 * mre + t)) (mrm mre)) mpl)).toNat by omega), if_neg (show ¬ (uz (fun t => mrw (100 * mre + t)) (mrm mre)) (mpl + 1 + dgz ((uz (fun t => mrw (100 * mre + t)) (mrm mre)) mpl)) ≠ 59 from fun z => z (by omega))]
        refine x_iconst (v := 0) C dX12_readStatement_107 ?_
        refine x_put C in_X12_readStatement_X12 tyX12 tyX12_ok nmX12 0 rfl rfl 20 (by decide) (List.mem_of_getElem? (i := 5) rfl) rfl rfl rfl (nar_z (by decide)) (fits_z (by decide)) (Nat.le_of_ble_eq_true rfl) (WM X.γ a mh mn mkd mfg mag mpo mwy mdy mhw mkk mkf mrs mrm mrw mth maw mgr mwa mre (mpl + 1 + dgz (((uz (fun t => mrw (100 * mre + t)) (mrm mre)) mpl))) 0 msn (upz mpn msn mpl) (upz mlo msn ((uz (fun t => mrw (100 * mre + t)) (mrm mre)) mpl)) TLb216 mke mim mhi mp0 mtk mki mun msd mbe) rfl dX12_readStatement_108 ?_
        refine x_aload_n C 2 rfl rfl dX12_readStatement_111 ?_
        refine x_dup C rfl dX12_readStatement_112 ?_
        refine x_get C in_X12_readStatement_X12 0 rfl rfl 19 (by decide) (List.mem_of_getElem? (i := 3) rfl) rfl (v := .int (iN (mpl + 1 + dgz (((uz (fun t => mrw (100 * mre + t)) (mrm mre)) mpl))))) rfl dX12_readStatement_113 ?_
        refine x_aload_n C 2 rfl rfl dX12_readStatement_116 ?_
        refine x_get C in_X12_readStatement_X12 0 rfl rfl 20 (by decide) (List.mem_of_getElem? (i := 5) rfl) rfl (v := .int (iN (0))) rfl dX12_readStatement_117 ?_
        refine x_if_eq C 127 (by decide) (by decide) dX12_readStatement_120 (fun _ => ?_) (fun z => absurd z (by decide))
        refine x_iconst (v := 0) C dX12_readStatement_127 ?_
        refine x_iadd C dX12_readStatement_128 ?_
        refine x_put C in_X12_readStatement_X12 tyX12 tyX12_ok nmX12 0 rfl rfl 19 (by decide) (List.mem_of_getElem? (i := 3) rfl) rfl rfl rfl rfl rfl (Nat.le_of_ble_eq_true rfl) (WM X.γ a mh mn mkd mfg mag mpo mwy mdy mhw mkk mkf mrs mrm mrw mth maw mgr mwa mre ((mpl + 1 + dgz (((uz (fun t => mrw (100 * mre + t)) (mrm mre)) mpl))) + 1) 0 msn (upz mpn msn mpl) (upz mlo msn ((uz (fun t => mrw (100 * mre + t)) (mrm mre)) mpl)) TLb216 mke mim mhi mp0 mtk mki mun msd mbe) rfl dX12_readStatement_129 ?_
        refine x_aload_n C 2 rfl rfl dX12_readStatement_132 ?_
        refine x_dup C rfl dX12_readStatement_133 ?_
        refine x_get C in_X12_readStatement_X12 0 rfl rfl 21 (by decide) (List.mem_of_getElem? (i := 1) rfl) rfl (v := .int (iN (msn))) rfl dX12_readStatement_134 ?_
        refine x_iconst (v := 0) C dX12_readStatement_137 ?_
        refine x_iadd C dX12_readStatement_138 ?_
        refine x_put C in_X12_readStatement_X12 tyX12 tyX12_ok nmX12 0 rfl rfl 21 (by decide) (List.mem_of_getElem? (i := 1) rfl) rfl rfl rfl rfl rfl (Nat.le_of_ble_eq_true rfl) (WM X.γ a mh mn mkd mfg mag mpo mwy mdy mhw mkk mkf mrs mrm mrw mth maw mgr mwa mre ((mpl + 1 + dgz (((uz (fun t => mrw (100 * mre + t)) (mrm mre)) mpl))) + 1) 0 (msn + 1) (upz mpn msn mpl) (upz mlo msn ((uz (fun t => mrw (100 * mre + t)) (mrm mre)) mpl)) TLb216 mke mim mhi mp0 mtk mki mun msd mbe) rfl dX12_readStatement_139 ?_
        exact hret _ _ _ dX12_readStatement_142 (Or.inl (by have e : ((mpl + 1 + dgz (((uz (fun t => mrw (100 * mre + t)) (mrm mre)) mpl))) + 1 : Int) = mpl + dgz ((uz (fun t => mrw (100 * mre + t)) (mrm mre)) mpl) + 2 := (by omega); refine ⟨hsb, TLb216, fb216, tb216, ?_⟩; rw [← e]))
      · have hsb : sbad (uz (fun t => mrw (100 * mre + t)) (mrm mre)) mpl = mpl + 1 + dgz ((uz (fun t => mrw (100 * mre + t)) (mrm mre)) mpl) := by unfold sbad; rw [if_neg (show ¬ dgz ((uz (fun t => mrw (100 * mre + t)) (mrm mre)) mpl) < 0 by omega), if_neg (show ¬ ldz (uz (fun t => mrw (100 * mre + t)) (mrm mre)) (mpl + 1) (dgz ((uz (fun t => mrw (100 * mre + t)) (mrm mre)) mpl)).toNat < (dgz ((uz (fun t => mrw (100 * mre + t)) (mrm mre)) mpl)).toNat by omega), if_pos (show (uz (fun t => mrw (100 * mre + t)) (mrm mre)) (mpl + 1 + dgz ((uz (fun t => mrw (100 * mre + t)) (mrm mre)) mpl)) ≠ 59 by omega)]
        refine x_iconst (v := 0) C dX12_readStatement_103 ?_
        refine x_goto C 108 (by decide) dX12_readStatement_104 ?_
        refine x_put C in_X12_readStatement_X12 tyX12 tyX12_ok nmX12 0 rfl rfl 20 (by decide) (List.mem_of_getElem? (i := 5) rfl) rfl rfl rfl (nar_z (by decide)) (fits_z (by decide)) (Nat.le_of_ble_eq_true rfl) (WM X.γ a mh mn mkd mfg mag mpo mwy mdy mhw mkk mkf mrs mrm mrw mth maw mgr mwa mre (mpl + 1 + dgz (((uz (fun t => mrw (100 * mre + t)) (mrm mre)) mpl))) 1 msn (upz mpn msn mpl) (upz mlo msn ((uz (fun t => mrw (100 * mre + t)) (mrm mre)) mpl)) TLb216 mke mim mhi mp0 mtk mki mun msd mbe) rfl dX12_readStatement_108 ?_
        refine x_aload_n C 2 rfl rfl dX12_readStatement_111 ?_
        refine x_dup C rfl dX12_readStatement_112 ?_
        refine x_get C in_X12_readStatement_X12 0 rfl rfl 19 (by decide) (List.mem_of_getElem? (i := 3) rfl) rfl (v := .int (iN (mpl + 1 + dgz (((uz (fun t => mrw (100 * mre + t)) (mrm mre)) mpl))))) rfl dX12_readStatement_113 ?_
        refine x_aload_n C 2 rfl rfl dX12_readStatement_116 ?_
        refine x_get C in_X12_readStatement_X12 0 rfl rfl 20 (by decide) (List.mem_of_getElem? (i := 5) rfl) rfl (v := .int (iN (1))) rfl dX12_readStatement_117 ?_
        refine x_if_eq C 127 (by decide) (by decide) dX12_readStatement_120 (fun z => absurd z (by decide)) (fun _ => ?_)
        refine x_iconst (v := 0) C dX12_readStatement_123 ?_
        refine x_goto C 128 (by decide) dX12_readStatement_124 ?_
        refine x_iadd C dX12_readStatement_128 ?_
        refine x_put C in_X12_readStatement_X12 tyX12 tyX12_ok nmX12 0 rfl rfl 19 (by decide) (List.mem_of_getElem? (i := 3) rfl) rfl rfl rfl rfl rfl (Nat.le_of_ble_eq_true rfl) (WM X.γ a mh mn mkd mfg mag mpo mwy mdy mhw mkk mkf mrs mrm mrw mth maw mgr mwa mre ((mpl + 1 + dgz (((uz (fun t => mrw (100 * mre + t)) (mrm mre)) mpl))) + 0) 1 msn (upz mpn msn mpl) (upz mlo msn ((uz (fun t => mrw (100 * mre + t)) (mrm mre)) mpl)) TLb216 mke mim mhi mp0 mtk mki mun msd mbe) rfl dX12_readStatement_129 ?_
        refine x_aload_n C 2 rfl rfl dX12_readStatement_132 ?_
        refine x_dup C rfl dX12_readStatement_133 ?_
        refine x_get C in_X12_readStatement_X12 0 rfl rfl 21 (by decide) (List.mem_of_getElem? (i := 1) rfl) rfl (v := .int (iN (msn))) rfl dX12_readStatement_134 ?_
        refine x_iconst (v := 0) C dX12_readStatement_137 ?_
        refine x_iadd C dX12_readStatement_138 ?_
        refine x_put C in_X12_readStatement_X12 tyX12 tyX12_ok nmX12 0 rfl rfl 21 (by decide) (List.mem_of_getElem? (i := 1) rfl) rfl rfl rfl rfl rfl (Nat.le_of_ble_eq_true rfl) (WM X.γ a mh mn mkd mfg mag mpo mwy mdy mhw mkk mkf mrs mrm mrw mth maw mgr mwa mre ((mpl + 1 + dgz (((uz (fun t => mrw (100 * mre + t)) (mrm mre)) mpl))) + 0) 1 (msn + 1) (upz mpn msn mpl) (upz mlo msn ((uz (fun t => mrw (100 * mre + t)) (mrm mre)) mpl)) TLb216 mke mim mhi mp0 mtk mki mun msd mbe) rfl dX12_readStatement_139 ?_
        exact hret _ _ _ dX12_readStatement_142 (Or.inr (by have e : ((mpl + 1 + dgz (((uz (fun t => mrw (100 * mre + t)) (mrm mre)) mpl))) + 0 : Int) = sbad (uz (fun t => mrw (100 * mre + t)) (mrm mre)) mpl := (by rw [hsb]; omega); refine ⟨by rw [hsb]; omega, (upz mlo msn ((uz (fun t => mrw (100 * mre + t)) (mrm mre)) mpl)), TLb216, ?_⟩; rw [← e]))
    · have hsb : sbad (uz (fun t => mrw (100 * mre + t)) (mrm mre)) mpl = mpl + 1 + (ldz (uz (fun t => mrw (100 * mre + t)) (mrm mre)) (mpl + 1) (dgz ((uz (fun t => mrw (100 * mre + t)) (mrm mre)) mpl)).toNat : Int) := by unfold sbad; rw [if_neg (show ¬ dgz ((uz (fun t => mrw (100 * mre + t)) (mrm mre)) mpl) < 0 by omega), if_pos gb216]
      refine x_aload_n C 2 rfl rfl dX12_readStatement_86 ?_
      refine x_aload_n C 2 rfl rfl dX12_readStatement_87 ?_
      refine x_get C in_X12_readStatement_X12 0 rfl rfl 20 (by decide) (List.mem_of_getElem? (i := 5) rfl) rfl (v := .int (iN (1))) rfl dX12_readStatement_88 ?_
      refine x_if_ne C 103 (by decide) (by decide) dX12_readStatement_91 (fun _ => ?_) (fun z => absurd z (by decide))
      refine x_iconst (v := 0) C dX12_readStatement_103 ?_
      refine x_goto C 108 (by decide) dX12_readStatement_104 ?_
      refine x_put C in_X12_readStatement_X12 tyX12 tyX12_ok nmX12 0 rfl rfl 20 (by decide) (List.mem_of_getElem? (i := 5) rfl) rfl rfl rfl (nar_z (by decide)) (fits_z (by decide)) (Nat.le_of_ble_eq_true rfl) (WM X.γ a mh mn mkd mfg mag mpo mwy mdy mhw mkk mkf mrs mrm mrw mth maw mgr mwa mre (mpl + 1 + (ldz (uz (fun t => mrw (100 * mre + t)) (mrm mre)) (mpl + 1) (dgz (((uz (fun t => mrw (100 * mre + t)) (mrm mre)) mpl))).toNat : Int)) 1 msn (upz mpn msn mpl) (upz mlo msn ((uz (fun t => mrw (100 * mre + t)) (mrm mre)) mpl)) TLb216 mke mim mhi mp0 mtk mki mun msd mbe) rfl dX12_readStatement_108 ?_
      refine x_aload_n C 2 rfl rfl dX12_readStatement_111 ?_
      refine x_dup C rfl dX12_readStatement_112 ?_
      refine x_get C in_X12_readStatement_X12 0 rfl rfl 19 (by decide) (List.mem_of_getElem? (i := 3) rfl) rfl (v := .int (iN (mpl + 1 + (ldz (uz (fun t => mrw (100 * mre + t)) (mrm mre)) (mpl + 1) (dgz (((uz (fun t => mrw (100 * mre + t)) (mrm mre)) mpl))).toNat : Int)))) rfl dX12_readStatement_113 ?_
      refine x_aload_n C 2 rfl rfl dX12_readStatement_116 ?_
      refine x_get C in_X12_readStatement_X12 0 rfl rfl 20 (by decide) (List.mem_of_getElem? (i := 5) rfl) rfl (v := .int (iN (1))) rfl dX12_readStatement_117 ?_
      refine x_if_eq C 127 (by decide) (by decide) dX12_readStatement_120 (fun z => absurd z (by decide)) (fun _ => ?_)
      refine x_iconst (v := 0) C dX12_readStatement_123 ?_
      refine x_goto C 128 (by decide) dX12_readStatement_124 ?_
      refine x_iadd C dX12_readStatement_128 ?_
      refine x_put C in_X12_readStatement_X12 tyX12 tyX12_ok nmX12 0 rfl rfl 19 (by decide) (List.mem_of_getElem? (i := 3) rfl) rfl rfl rfl rfl rfl (Nat.le_of_ble_eq_true rfl) (WM X.γ a mh mn mkd mfg mag mpo mwy mdy mhw mkk mkf mrs mrm mrw mth maw mgr mwa mre ((mpl + 1 + (ldz (uz (fun t => mrw (100 * mre + t)) (mrm mre)) (mpl + 1) (dgz (((uz (fun t => mrw (100 * mre + t)) (mrm mre)) mpl))).toNat : Int)) + 0) 1 msn (upz mpn msn mpl) (upz mlo msn ((uz (fun t => mrw (100 * mre + t)) (mrm mre)) mpl)) TLb216 mke mim mhi mp0 mtk mki mun msd mbe) rfl dX12_readStatement_129 ?_
      refine x_aload_n C 2 rfl rfl dX12_readStatement_132 ?_
      refine x_dup C rfl dX12_readStatement_133 ?_
      refine x_get C in_X12_readStatement_X12 0 rfl rfl 21 (by decide) (List.mem_of_getElem? (i := 1) rfl) rfl (v := .int (iN (msn))) rfl dX12_readStatement_134 ?_
      refine x_iconst (v := 0) C dX12_readStatement_137 ?_
      refine x_iadd C dX12_readStatement_138 ?_
      refine x_put C in_X12_readStatement_X12 tyX12 tyX12_ok nmX12 0 rfl rfl 21 (by decide) (List.mem_of_getElem? (i := 1) rfl) rfl rfl rfl rfl rfl (Nat.le_of_ble_eq_true rfl) (WM X.γ a mh mn mkd mfg mag mpo mwy mdy mhw mkk mkf mrs mrm mrw mth maw mgr mwa mre ((mpl + 1 + (ldz (uz (fun t => mrw (100 * mre + t)) (mrm mre)) (mpl + 1) (dgz (((uz (fun t => mrw (100 * mre + t)) (mrm mre)) mpl))).toNat : Int)) + 0) 1 (msn + 1) (upz mpn msn mpl) (upz mlo msn ((uz (fun t => mrw (100 * mre + t)) (mrm mre)) mpl)) TLb216 mke mim mhi mp0 mtk mki mun msd mbe) rfl dX12_readStatement_139 ?_
      exact hret _ _ _ dX12_readStatement_142 (Or.inr (by have e : ((mpl + 1 + (ldz (uz (fun t => mrw (100 * mre + t)) (mrm mre)) (mpl + 1) (dgz (((uz (fun t => mrw (100 * mre + t)) (mrm mre)) mpl))).toNat : Int)) + 0 : Int) = sbad (uz (fun t => mrw (100 * mre + t)) (mrm mre)) mpl := (by rw [hsb]; omega); refine ⟨by rw [hsb]; omega, (upz mlo msn ((uz (fun t => mrw (100 * mre + t)) (mrm mre)) mpl)), TLb216, ?_⟩; rw [← e]))
  · have hd : dgz ((uz (fun t => mrw (100 * mre + t)) (mrm mre)) mpl) < 0 := by rcases ub215 with q | ⟨_, q⟩; (rw [← q]; omega); (rw [q]; decide)
    have hsb : sbad (uz (fun t => mrw (100 * mre + t)) (mrm mre)) mpl = mpl := if_pos hd
    refine x_iconst (v := 0) C dX12_readStatement_42 ?_
    refine x_goto C 47 (by decide) dX12_readStatement_43 ?_
    refine x_put C in_X12_readStatement_X12 tyX12 tyX12_ok nmX12 0 rfl rfl 20 (by decide) (List.mem_of_getElem? (i := 5) rfl) rfl rfl rfl (nar_z (by decide)) (fits_z (by decide)) (Nat.le_of_ble_eq_true rfl) (WM X.γ a mh mn mkd mfg mag mpo mwy mdy mhw mkk mkf mrs mrm mrw mth maw mgr mwa mre mpl 1 msn (upz mpn msn mpl) (upz mlo msn hb215) mtl mke mim mhi mp0 mtk mki mun msd mbe) rfl dX12_readStatement_47 ?_
    refine x_aload_n C 2 rfl rfl dX12_readStatement_50 ?_
    refine x_dup C rfl dX12_readStatement_51 ?_
    refine x_get C in_X12_readStatement_X12 0 rfl rfl 19 (by decide) (List.mem_of_getElem? (i := 3) rfl) rfl (v := .int (iN (mpl))) rfl dX12_readStatement_52 ?_
    refine x_aload_n C 2 rfl rfl dX12_readStatement_55 ?_
    refine x_get C in_X12_readStatement_X12 0 rfl rfl 20 (by decide) (List.mem_of_getElem? (i := 5) rfl) rfl (v := .int (iN (1))) rfl dX12_readStatement_56 ?_
    refine x_if_eq C 66 (by decide) (by decide) dX12_readStatement_59 (fun z => absurd z (by decide)) (fun _ => ?_)
    refine x_iconst (v := 0) C dX12_readStatement_62 ?_
    refine x_goto C 67 (by decide) dX12_readStatement_63 ?_
    refine x_iadd C dX12_readStatement_67 ?_
    refine x_put C in_X12_readStatement_X12 tyX12 tyX12_ok nmX12 0 rfl rfl 19 (by decide) (List.mem_of_getElem? (i := 3) rfl) rfl rfl rfl rfl rfl (Nat.le_of_ble_eq_true rfl) (WM X.γ a mh mn mkd mfg mag mpo mwy mdy mhw mkk mkf mrs mrm mrw mth maw mgr mwa mre (mpl + 0) 1 msn (upz mpn msn mpl) (upz mlo msn hb215) mtl mke mim mhi mp0 mtk mki mun msd mbe) rfl dX12_readStatement_68 ?_
    refine x_aload_n C 2 rfl rfl dX12_readStatement_71 ?_
    refine x_get C in_X12_readStatement_X12 0 rfl rfl 20 (by decide) (List.mem_of_getElem? (i := 5) rfl) rfl (v := .int (iN (1))) rfl dX12_readStatement_72 ?_
    refine x_if_ne C 86 (by decide) (by decide) dX12_readStatement_75 (fun _ => ?_) (fun z => absurd z (by decide))
    refine x_aload_n C 2 rfl rfl dX12_readStatement_86 ?_
    refine x_aload_n C 2 rfl rfl dX12_readStatement_87 ?_
    refine x_get C in_X12_readStatement_X12 0 rfl rfl 20 (by decide) (List.mem_of_getElem? (i := 5) rfl) rfl (v := .int (iN (1))) rfl dX12_readStatement_88 ?_
    refine x_if_ne C 103 (by decide) (by decide) dX12_readStatement_91 (fun _ => ?_) (fun z => absurd z (by decide))
    refine x_iconst (v := 0) C dX12_readStatement_103 ?_
    refine x_goto C 108 (by decide) dX12_readStatement_104 ?_
    refine x_put C in_X12_readStatement_X12 tyX12 tyX12_ok nmX12 0 rfl rfl 20 (by decide) (List.mem_of_getElem? (i := 5) rfl) rfl rfl rfl (nar_z (by decide)) (fits_z (by decide)) (Nat.le_of_ble_eq_true rfl) (WM X.γ a mh mn mkd mfg mag mpo mwy mdy mhw mkk mkf mrs mrm mrw mth maw mgr mwa mre (mpl + 0) 1 msn (upz mpn msn mpl) (upz mlo msn hb215) mtl mke mim mhi mp0 mtk mki mun msd mbe) rfl dX12_readStatement_108 ?_
    refine x_aload_n C 2 rfl rfl dX12_readStatement_111 ?_
    refine x_dup C rfl dX12_readStatement_112 ?_
    refine x_get C in_X12_readStatement_X12 0 rfl rfl 19 (by decide) (List.mem_of_getElem? (i := 3) rfl) rfl (v := .int (iN (mpl + 0))) rfl dX12_readStatement_113 ?_
    refine x_aload_n C 2 rfl rfl dX12_readStatement_116 ?_
    refine x_get C in_X12_readStatement_X12 0 rfl rfl 20 (by decide) (List.mem_of_getElem? (i := 5) rfl) rfl (v := .int (iN (1))) rfl dX12_readStatement_117 ?_
    refine x_if_eq C 127 (by decide) (by decide) dX12_readStatement_120 (fun z => absurd z (by decide)) (fun _ => ?_)
    refine x_iconst (v := 0) C dX12_readStatement_123 ?_
    refine x_goto C 128 (by decide) dX12_readStatement_124 ?_
    refine x_iadd C dX12_readStatement_128 ?_
    refine x_put C in_X12_readStatement_X12 tyX12 tyX12_ok nmX12 0 rfl rfl 19 (by decide) (List.mem_of_getElem? (i := 3) rfl) rfl rfl rfl rfl rfl (Nat.le_of_ble_eq_true rfl) (WM X.γ a mh mn mkd mfg mag mpo mwy mdy mhw mkk mkf mrs mrm mrw mth maw mgr mwa mre ((mpl + 0) + 0) 1 msn (upz mpn msn mpl) (upz mlo msn hb215) mtl mke mim mhi mp0 mtk mki mun msd mbe) rfl dX12_readStatement_129 ?_
    refine x_aload_n C 2 rfl rfl dX12_readStatement_132 ?_
    refine x_dup C rfl dX12_readStatement_133 ?_
    refine x_get C in_X12_readStatement_X12 0 rfl rfl 21 (by decide) (List.mem_of_getElem? (i := 1) rfl) rfl (v := .int (iN (msn))) rfl dX12_readStatement_134 ?_
    refine x_iconst (v := 0) C dX12_readStatement_137 ?_
    refine x_iadd C dX12_readStatement_138 ?_
    refine x_put C in_X12_readStatement_X12 tyX12 tyX12_ok nmX12 0 rfl rfl 21 (by decide) (List.mem_of_getElem? (i := 1) rfl) rfl rfl rfl rfl rfl (Nat.le_of_ble_eq_true rfl) (WM X.γ a mh mn mkd mfg mag mpo mwy mdy mhw mkk mkf mrs mrm mrw mth maw mgr mwa mre ((mpl + 0) + 0) 1 (msn + 1) (upz mpn msn mpl) (upz mlo msn hb215) mtl mke mim mhi mp0 mtk mki mun msd mbe) rfl dX12_readStatement_139 ?_
    exact hret _ _ _ dX12_readStatement_142 (Or.inr (by have e : ((mpl + 0) + 0 : Int) = sbad (uz (fun t => mrw (100 * mre + t)) (mrm mre)) mpl := (by rw [hsb]; omega); refine ⟨by rw [hsb]; omega, (upz mlo msn hb215), mtl, ?_⟩; rw [← e]))
end HREAad
