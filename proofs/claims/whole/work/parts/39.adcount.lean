section HSM2ad
theorem in_X12_count_X12 : ∀ w ∈ u_ws RX12 TX12 34, w ∈ wsX12_count := by decide +kernel
theorem ok_X12_count : okY yX12_count 1 := by decide +kernel
def rmX12_count : Room := { frames := 4, cells := 0, slots := 0, locals := 92 }
set_option maxRecDepth 100000 in
set_option maxHeartbeats 400000 in
theorem c_X12_count (l : Launch) (γ : GX) (a : Nat → Nat) (mh : Int → Int) (mn : Int) (mkd : Int → Int) (mfg : Int → Int) (mag : Int → Int) (mpo : Int → Int) (mwy : Int → Int) (mdy : Int) (mhw : Int → Int) (mkk : Int → Int) (mkf : Int → Int) (mrs : Int → Int) (mrm : Int → Int) (mrw : Int → Int) (mth : Int) (mgr : Int → Int) (mwa : Int → Int) (mre : Int) (mpl : Int) (mib : Int) (msn : Int) (mpn : Int → Int) (mlo : Int → Int) (mtl : Int → Int) (mke : Int → Int) (mim : Int → Int) (mhi : Int) (mp0 : Int) (mtk : Int) (mki : Value) (mun : Int → Int) (msd : Int) (mbe : Int → Int) (hM : WFm mn mh mkd mfg mag mpo mwy mhw mkk mkf mrs mrm mrw) (w : Int) (h0_ : -2147483648 ≤ w ∧ w < 2147483648) : MI l γ yX12_count wsX12_count rmX12_count [.ref (a 0), .int (iN (w))] (WM γ a mh mn mkd mfg mag mpo mwy mdy mhw mkk mkf mrs mrm mrw mth 0 mgr mwa mre mpl mib msn mpn mlo mtl mke mim mhi mp0 mtk mki mun msd mbe) (fun r_ w_ => r_ = q_count (Lc mh mn mdy mkd mfg mag mpo mwy) w ∧ Wk γ a mh mn mkd mfg mag mpo mwy mdy mhw mkk mkf mrs mrm mrw 0 mim mhi w_) 0 0 := by
  refine MI.of (cc := cX12_count) (maxL := 4) (rt := .int) RX12 rfl (by decide +kernel) rfl (Nat.le_of_ble_eq_true rfl) ?_
  intro X C hγ hl hnm hret
  subst hγ
  have hMn := WFm.n hM
  show Wx X 0 0 (WM X.γ a mh mn mkd mfg mag mpo mwy mdy mhw mkk mkf mrs mrm mrw mth 0 mgr mwa mre mpl mib msn mpn mlo mtl mke mim mhi mp0 mtk mki mun msd mbe) 0 [(0, .ref (a 0)), (1, .int (iN (w)))] []
  refine x_aload_n C 0 rfl rfl dX12_count_0 ?_
  refine x_iconst (v := 0) C dX12_count_1 ?_
  refine x_put C in_X12_count_X12 tyX12 tyX12_ok nmX12 0 rfl rfl 14 (by decide) (List.mem_of_getElem? (i := 1) rfl) rfl rfl rfl rfl rfl (Nat.le_of_ble_eq_true rfl) (WM X.γ a mh mn mkd mfg mag mpo mwy mdy mhw mkk mkf mrs mrm mrw 0 0 mgr mwa mre mpl mib msn mpn mlo mtl mke mim mhi mp0 mtk mki mun msd mbe) rfl dX12_count_2 ?_
  refine x_iconst (v := 0) C dX12_count_5 ?_
  refine x_istore_n C [(2, .int (iN (0))), (0, .ref (a 0)), (1, .int (iN (w)))] rfl (by decide) rfl dX12_count_6 ?_
  refine x_iload_n C 2 rfl rfl dX12_count_7 ?_
  rcases (show w = 0 ∨ w = 1 ∨ w = 2 ∨ w = 3 ∨ w = 4 ∨ w = 5 ∨ (w < 0 ∨ 5 < w) by omega) with s_8 | s_8 | s_8 | s_8 | s_8 | s_8 | s_8
  · refine x_tabIn C 48 (40) (by omega) (by omega) (by omega) (by rw [s_8]; rfl) (by decide) dX12_count_8 ?_
    refine x_aload_n C 1 rfl rfl dX12_count_48 ?_
    refine x_get C in_X12_count_X12 0 rfl rfl 1 (by decide) (List.mem_of_getElem? (i := 2) rfl) rfl (v := .int (iN (mn))) rfl dX12_count_49 ?_
    exact hret _ _ _ _ dX12_count_52 rfl ⟨(by unfold q_count; rw [if_pos (show w = 0 by omega)]; rfl), Wk.mk⟩
  · refine x_tabIn C 53 (45) (by omega) (by omega) (by omega) (by rw [s_8]; rfl) (by decide) dX12_count_8 ?_
    refine x_aload_n C 1 rfl rfl dX12_count_53 ?_
    refine x_get C in_X12_count_X12 0 rfl rfl 7 (by decide) (List.mem_of_getElem? (i := 3) rfl) rfl (v := .int (iN (mdy))) rfl dX12_count_54 ?_
    exact hret _ _ _ _ dX12_count_57 rfl ⟨(by unfold q_count; rw [if_neg (show ¬ w = 0 by omega), if_pos (show w = 1 by omega)]; rfl), Wk.mk⟩
  · refine x_tabIn C 58 (50) (by omega) (by omega) (by omega) (by rw [s_8]; rfl) (by decide) dX12_count_8 ?_
    refine x_iconst (v := 0) C dX12_count_58 ?_
    refine x_istore_n C [(3, .int (iN (0))), (2, .int (iN (0))), (0, .ref (a 0)), (1, .int (iN (w)))] rfl (by decide) rfl dX12_count_59 ?_
    have LP60 : ∀ (f : Nat) (k : Nat) (v3_60 : Int) (v2_60 : Int), (15 - k < f) → (k ≤ 15) → (((k : Int)) = v3_60) → (v2_60 = (sumz mh k)) → Wx X 0 0 (WM X.γ a mh mn mkd mfg mag mpo mwy mdy mhw mkk mkf mrs mrm mrw 0 0 mgr mwa mre mpl mib msn mpn mlo mtl mke mim mhi mp0 mtk mki mun msd mbe) 60 [(3, .int (iN (v3_60))), (2, .int (iN (v2_60))), (0, .ref (a 0)), (1, .int (iN (w)))] [] := by
      intro f
      induction f with
      | zero => intro k v3_60 v2_60 hf; exact absurd hf (Nat.not_lt_zero _)
      | succ f ih60 =>
        intro k v3_60 v2_60 hf hk e3_60 e2_60
        subst e3_60
        refine x_iload_n C 0 rfl rfl dX12_count_60 ?_
        refine x_bipush C (15) (by decide) dX12_count_61 ?_
        refine x_icmp_ge C 81 (by decide) (by omega) dX12_count_63 (fun c_63 => ?_) (fun c_63 => ?_)
        · refine x_iload_n C 1 rfl rfl dX12_count_81 ?_
          exact hret _ _ _ _ dX12_count_82 rfl ⟨(by have hz : k = 15 := (by omega); subst hz; unfold q_count; rw [if_neg (show ¬ w = 0 by omega), if_neg (show ¬ w = 1 by omega), if_pos (show w = 2 by omega)]; exact e2_60), Wk.mk⟩
        · refine x_iload_n C 1 rfl rfl dX12_count_66 ?_
          refine x_aload_n C 2 rfl rfl dX12_count_67 ?_
          refine x_get C in_X12_count_X12 0 rfl rfl 0 (by decide) (List.mem_of_getElem? (i := 4) rfl) rfl (v := .ref (a 1)) rfl dX12_count_68 ?_
          refine x_iload_n C 0 rfl rfl dX12_count_71 ?_
          refine x_iaload C (f := mh) 1 rfl (by omega) rfl dX12_count_72 ?_
          have b144 := WFm.h hM ((k : Int))
          refine x_iadd C dX12_count_73 ?_
          refine x_istore_n C [(2, .int (iN (v2_60 + (mh (k : Int))))), (3, .int (iN ((k : Int)))), (0, .ref (a 0)), (1, .int (iN (w)))] rfl (by decide) rfl dX12_count_74 ?_
          refine x_iinc C 1 [(3, .int (iN ((k : Int) + 1))), (2, .int (iN (v2_60 + (mh (k : Int))))), (0, .ref (a 0)), (1, .int (iN (w)))] rfl rfl (by decide) rfl dX12_count_75 ?_
          refine x_goto C 60 (by decide) dX12_count_78 ?_
          exact ih60 (k + 1) _ _ (by omega) (by omega) (by omega) (by simp only [sumz]; omega)
    exact LP60 ((15 - (0)) + 1) (0) _ _ (by omega) (by omega) (by omega) (rfl)
  · refine x_tabIn C 83 (75) (by omega) (by omega) (by omega) (by rw [s_8]; rfl) (by decide) dX12_count_8 ?_
    refine x_aload_n C 1 rfl rfl dX12_count_83 ?_
    refine x_V_I C (As := []) (rest := []) 0 0 rfl rfl gX12_count_X12_allGround rfl (c_X12_allGround _ _ a mh mn mkd mfg mag mpo mwy mdy mhw mkk mkf mrs mrm mrw 0 mgr mwa mre mpl mib msn mpn mlo mtl mke mim mhi mp0 mtk mki mun msd mbe hM) rfl ok_X12_allGround rfl rfl rfl rfl dX12_count_84 (fun r w1 hp => ?_)
    obtain ⟨rfl, rfl⟩ := hp
    show Wx X 0 0 (WM X.γ a mh mn mkd mfg mag mpo mwy mdy mhw mkk mkf mrs mrm mrw 0 0 (Ct.g (Lc mh mn mdy mkd mfg mag mpo mwy)) mwa mre mpl mib msn mpn mlo mtl mke mim mhi mp0 mtk mki mun msd mbe) 87 [(2, .int (iN (0))), (0, .ref (a 0)), (1, .int (iN (w)))] [.int (iN (sumz (Ct.g (Lc mh mn mdy mkd mfg mag mpo mwy)) 15))]
    have b146 := sumz_b (m := 20) (f := Ct.g (Lc mh mn mdy mkd mfg mag mpo mwy)) (WFc.g (WFm.L hM mdy)) 15
    exact hret _ _ _ _ dX12_count_87 rfl ⟨(by unfold q_count; rw [if_neg (show ¬ w = 0 by omega), if_neg (show ¬ w = 1 by omega), if_neg (show ¬ w = 2 by omega), if_pos (show w = 3 by omega)]), Wk.mk⟩
  · refine x_tabIn C 88 (80) (by omega) (by omega) (by omega) (by rw [s_8]; rfl) (by decide) dX12_count_8 ?_
    refine x_iconst (v := 0) C dX12_count_88 ?_
    refine x_istore_n C [(3, .int (iN (0))), (2, .int (iN (0))), (0, .ref (a 0)), (1, .int (iN (w)))] rfl (by decide) rfl dX12_count_89 ?_
    have LP90 : ∀ (f : Nat) (k : Nat) (v3_90 : Int) (v2_90 : Int), (mn.toNat - k < f) → (k ≤ mn.toNat) → (((k : Int)) = v3_90) → (v2_90 = (bitz (fun i => mwy i ≠ 0) k)) → Wx X 0 0 (WM X.γ a mh mn mkd mfg mag mpo mwy mdy mhw mkk mkf mrs mrm mrw 0 0 mgr mwa mre mpl mib msn mpn mlo mtl mke mim mhi mp0 mtk mki mun msd mbe) 90 [(3, .int (iN (v3_90))), (2, .int (iN (v2_90))), (0, .ref (a 0)), (1, .int (iN (w)))] [] := by
      intro f
      induction f with
      | zero => intro k v3_90 v2_90 hf; exact absurd hf (Nat.not_lt_zero _)
      | succ f ih90 =>
        intro k v3_90 v2_90 hf hk e3_90 e2_90
        subst e3_90
        refine x_iload_n C 0 rfl rfl dX12_count_90 ?_
        refine x_aload_n C 2 rfl rfl dX12_count_91 ?_
        refine x_get C in_X12_count_X12 0 rfl rfl 1 (by decide) (List.mem_of_getElem? (i := 2) rfl) rfl (v := .int (iN (mn))) rfl dX12_count_92 ?_
        refine x_icmp_ge C 123 (by decide) (by omega) dX12_count_95 (fun c_95 => ?_) (fun c_95 => ?_)
        · refine x_iload_n C 1 rfl rfl dX12_count_123 ?_
          exact hret _ _ _ _ dX12_count_124 rfl ⟨(by have hz : k = mn.toNat := (by omega); subst hz; unfold q_count; rw [if_neg (show ¬ w = 0 by omega), if_neg (show ¬ w = 1 by omega), if_neg (show ¬ w = 2 by omega), if_neg (show ¬ w = 3 by omega), if_pos (show w = 4 by omega)]; exact e2_90), Wk.mk⟩
        · refine x_iload_n C 1 rfl rfl dX12_count_98 ?_
          refine x_aload_n C 2 rfl rfl dX12_count_99 ?_
          refine x_get C in_X12_count_X12 0 rfl rfl 6 (by decide) (List.mem_of_getElem? (i := 5) rfl) rfl (v := .ref (a 6)) rfl dX12_count_100 ?_
          refine x_iload_n C 0 rfl rfl dX12_count_103 ?_
          refine x_iaload C (f := mwy) 6 rfl (by omega) rfl dX12_count_104 ?_
          have b147 := WFm.wy hM ((k : Int))
          have LP115 : ∀ (s0_115 : Int), (s0_115 = (if mwy (k : Int) ≠ 0 then 2 ^ k else 0)) → Wx X 0 0 (WM X.γ a mh mn mkd mfg mag mpo mwy mdy mhw mkk mkf mrs mrm mrw 0 0 mgr mwa mre mpl mib msn mpn mlo mtl mke mim mhi mp0 mtk mki mun msd mbe) 115 [(3, .int (iN ((k : Int)))), (2, .int (iN (v2_90))), (0, .ref (a 0)), (1, .int (iN (w)))] [.int (iN (s0_115)), .int (iN (v2_90))] := by
            intro s0_115 es0_115
            refine x_ior C (v2_90 + s0_115) (by rw [e2_90]; exact iN_orq (bitz_b (fun i => mwy i ≠ 0) k) (by omega) (by rw [es0_115]; split; exact Or.inr rfl; exact Or.inl rfl)) dX12_count_115 ?_
            refine x_istore_n C [(2, .int (iN (v2_90 + s0_115))), (3, .int (iN ((k : Int)))), (0, .ref (a 0)), (1, .int (iN (w)))] rfl (by decide) rfl dX12_count_116 ?_
            refine x_iinc C 1 [(3, .int (iN ((k : Int) + 1))), (2, .int (iN (v2_90 + s0_115))), (0, .ref (a 0)), (1, .int (iN (w)))] rfl rfl (by decide) rfl dX12_count_117 ?_
            refine x_goto C 90 (by decide) dX12_count_120 ?_
            exact ih90 (k + 1) _ _ (by omega) (by omega) (by omega) (by simp only [bitz]; rw [e2_90, es0_115]; by_cases q : mwy (k : Int) ≠ 0; (rw [if_pos q, if_pos q]); (rw [if_neg q, if_neg q]; omega))
          refine x_if_eq C 114 (by decide) (by omega) dX12_count_105 (fun c_105 => ?_) (fun c_105 => ?_)
          · refine x_iconst (v := 0) C dX12_count_114 ?_
            exact LP115 _ (by rw [if_neg (fun z => z c_105)])
          · refine x_iconst (v := 0) C dX12_count_108 ?_
            refine x_iload_n C 0 rfl rfl dX12_count_109 ?_
            refine x_ishl C (2 ^ k) (by rw [iN_shl1 (by omega), Int.toNat_natCast]) dX12_count_110 ?_
            refine x_goto C 115 (by decide) dX12_count_111 ?_
            exact LP115 _ (by rw [if_pos c_105])
    exact LP90 ((mn.toNat - (0)) + 1) (0) _ _ (by omega) (by omega) (by omega) (rfl)
  · refine x_tabIn C 125 (117) (by omega) (by omega) (by omega) (by rw [s_8]; rfl) (by decide) dX12_count_8 ?_
    refine x_aload_n C 1 rfl rfl dX12_count_125 ?_
    refine x_V_I C (As := []) (rest := []) 0 0 rfl rfl gX12_count_X12_allWater rfl (c_X12_allWater0 _ _ a mh mn mkd mfg mag mpo mwy mdy mhw mkk mkf mrs mrm mrw 0 mgr mwa mre mpl mib msn mpn mlo mtl mke mim mhi mp0 mtk mki mun msd mbe hM) rfl ok_X12_allWater rfl rfl rfl rfl dX12_count_126 (fun r w1 hp => ?_)
    obtain ⟨rfl, rfl⟩ := hp
    show Wx X 0 0 (WM X.γ a mh mn mkd mfg mag mpo mwy mdy mhw mkk mkf mrs mrm mrw 0 0 (Ct.g (Lc mh mn mdy mkd mfg mag mpo mwy)) (Ct.w (Lc mh mn mdy mkd mfg mag mpo mwy)) mre mpl mib msn mpn mlo mtl mke mim mhi mp0 mtk mki mun msd mbe) 129 [(2, .int (iN (0))), (0, .ref (a 0)), (1, .int (iN (w)))] [.int (iN (Ct.allW (Lc mh mn mdy mkd mfg mag mpo mwy)))]
    have b148 := WFc.allW (WFm.L hM mdy)
    refine x_pop C rfl dX12_count_129 ?_
    refine x_iconst (v := 0) C dX12_count_130 ?_
    refine x_istore_n C [(3, .int (iN (0))), (2, .int (iN (0))), (0, .ref (a 0)), (1, .int (iN (w)))] rfl (by decide) rfl dX12_count_131 ?_
    have LP132 : ∀ (f : Nat) (k : Nat) (v3_132 : Int) (v2_132 : Int), (15 - k < f) → (k ≤ 15) → (((k : Int)) = v3_132) → (v2_132 = (bitz (fun c => 0 < Ct.w (Lc mh mn mdy mkd mfg mag mpo mwy) c) k)) → Wx X 0 0 (WM X.γ a mh mn mkd mfg mag mpo mwy mdy mhw mkk mkf mrs mrm mrw 0 0 (Ct.g (Lc mh mn mdy mkd mfg mag mpo mwy)) (Ct.w (Lc mh mn mdy mkd mfg mag mpo mwy)) mre mpl mib msn mpn mlo mtl mke mim mhi mp0 mtk mki mun msd mbe) 132 [(3, .int (iN (v3_132))), (2, .int (iN (v2_132))), (0, .ref (a 0)), (1, .int (iN (w)))] [] := by
      intro f
      induction f with
      | zero => intro k v3_132 v2_132 hf; exact absurd hf (Nat.not_lt_zero _)
      | succ f ih132 =>
        intro k v3_132 v2_132 hf hk e3_132 e2_132
        subst e3_132
        refine x_iload_n C 0 rfl rfl dX12_count_132 ?_
        refine x_bipush C (15) (by decide) dX12_count_133 ?_
        refine x_icmp_ge C 163 (by decide) (by omega) dX12_count_135 (fun c_135 => ?_) (fun c_135 => ?_)
        · refine x_iload_n C 1 rfl rfl dX12_count_163 ?_
          exact hret _ _ _ _ dX12_count_164 rfl ⟨(by have hz : k = 15 := (by omega); subst hz; unfold q_count; rw [if_neg (show ¬ w = 0 by omega), if_neg (show ¬ w = 1 by omega), if_neg (show ¬ w = 2 by omega), if_neg (show ¬ w = 3 by omega), if_neg (show ¬ w = 4 by omega), if_pos (show w = 5 by omega)]; exact e2_132), Wk.mk⟩
        · refine x_iload_n C 1 rfl rfl dX12_count_138 ?_
          refine x_aload_n C 2 rfl rfl dX12_count_139 ?_
          refine x_get C in_X12_count_X12 0 rfl rfl 17 (by decide) (List.mem_of_getElem? (i := 6) rfl) rfl (v := .ref (a 14)) rfl dX12_count_140 ?_
          refine x_iload_n C 0 rfl rfl dX12_count_143 ?_
          refine x_iaload C (f := (Ct.w (Lc mh mn mdy mkd mfg mag mpo mwy))) 14 rfl (by omega) rfl dX12_count_144 ?_
          have b149 := WFc.w (WFm.L hM mdy) ((k : Int))
          have LP155 : ∀ (s0_155 : Int), (s0_155 = (if 0 < Ct.w (Lc mh mn mdy mkd mfg mag mpo mwy) (k : Int) then 2 ^ k else 0)) → Wx X 0 0 (WM X.γ a mh mn mkd mfg mag mpo mwy mdy mhw mkk mkf mrs mrm mrw 0 0 (Ct.g (Lc mh mn mdy mkd mfg mag mpo mwy)) (Ct.w (Lc mh mn mdy mkd mfg mag mpo mwy)) mre mpl mib msn mpn mlo mtl mke mim mhi mp0 mtk mki mun msd mbe) 155 [(3, .int (iN ((k : Int)))), (2, .int (iN (v2_132))), (0, .ref (a 0)), (1, .int (iN (w)))] [.int (iN (s0_155)), .int (iN (v2_132))] := by
            intro s0_155 es0_155
            refine x_ior C (v2_132 + s0_155) (by rw [e2_132]; exact iN_orq (bitz_b (fun c => 0 < Ct.w (Lc mh mn mdy mkd mfg mag mpo mwy) c) k) (by omega) (by rw [es0_155]; split; exact Or.inr rfl; exact Or.inl rfl)) dX12_count_155 ?_
            refine x_istore_n C [(2, .int (iN (v2_132 + s0_155))), (3, .int (iN ((k : Int)))), (0, .ref (a 0)), (1, .int (iN (w)))] rfl (by decide) rfl dX12_count_156 ?_
            refine x_iinc C 1 [(3, .int (iN ((k : Int) + 1))), (2, .int (iN (v2_132 + s0_155))), (0, .ref (a 0)), (1, .int (iN (w)))] rfl rfl (by decide) rfl dX12_count_157 ?_
            refine x_goto C 132 (by decide) dX12_count_160 ?_
            exact ih132 (k + 1) _ _ (by omega) (by omega) (by omega) (by simp only [bitz]; rw [e2_132, es0_155]; by_cases q : 0 < Ct.w (Lc mh mn mdy mkd mfg mag mpo mwy) (k : Int); (rw [if_pos q, if_pos q]); (rw [if_neg q, if_neg q]; omega))
          refine x_if_le C 154 (by decide) (by omega) dX12_count_145 (fun c_145 => ?_) (fun c_145 => ?_)
          · refine x_iconst (v := 0) C dX12_count_154 ?_
            exact LP155 _ (by rw [if_neg (by omega)])
          · refine x_iconst (v := 0) C dX12_count_148 ?_
            refine x_iload_n C 0 rfl rfl dX12_count_149 ?_
            refine x_ishl C (2 ^ k) (by rw [iN_shl1 (by omega), Int.toNat_natCast]) dX12_count_150 ?_
            refine x_goto C 155 (by decide) dX12_count_151 ?_
            exact LP155 _ (by rw [if_pos c_145])
    exact LP132 ((15 - (0)) + 1) (0) _ _ (by omega) (by omega) (by omega) (rfl)
  · refine x_tabOut C 165 (by omega) s_8 (by decide) dX12_count_8 ?_
    refine x_iconst (v := 0) C dX12_count_165 ?_
    exact hret _ _ _ _ dX12_count_166 rfl ⟨(by unfold q_count; rw [if_neg (show ¬ w = 0 by omega), if_neg (show ¬ w = 1 by omega), if_neg (show ¬ w = 2 by omega), if_neg (show ¬ w = 3 by omega), if_neg (show ¬ w = 4 by omega), if_neg (show ¬ w = 5 by omega)]), Wk.mk⟩
end HSM2ad
