section HSM2al
theorem in_X12_copy_X12 : ∀ w ∈ u_ws RX12 TX12 34, w ∈ wsX12_copy := by decide +kernel
theorem ok_X12_copy : okY yX12_copy 5 := by decide +kernel
def rmX12_copy : Room := { frames := 1, cells := 0, slots := 0, locals := 25 }
set_option maxRecDepth 100000 in
set_option maxHeartbeats 400000 in
theorem c_X12_copy (l : Launch) (γ : GX) (a : Nat → Nat) (mh : Int → Int) (mn : Int) (mkd : Int → Int) (mfg : Int → Int) (mag : Int → Int) (mpo : Int → Int) (mwy : Int → Int) (mdy : Int) (mhw : Int → Int) (mkk : Int → Int) (mkf : Int → Int) (mrs : Int → Int) (mrm : Int → Int) (mrw : Int → Int) (mth : Int) (mgr : Int → Int) (mwa : Int → Int) (mre : Int) (mpl : Int) (mib : Int) (msn : Int) (mpn : Int → Int) (mlo : Int → Int) (mtl : Int → Int) (mke : Int → Int) (mim : Int → Int) (mhi : Int) (mp0 : Int) (mtk : Int) (mki : Value) (mun : Int → Int) (msd : Int) (mbe : Int → Int) (hM : WFm mn mh mkd mfg mag mpo mwy mhw mkk mkf mrs mrm mrw) (d : Int) (i : Int) (e : Int) (j : Int) (m : Int) (h0_ : -2147483648 ≤ d ∧ d < 2147483648) (h1_ : -2147483648 ≤ i ∧ i < 2147483648) (h2_ : -2147483648 ≤ e ∧ e < 2147483648) (h3_ : -2147483648 ≤ j ∧ j < 2147483648) (h4_ : -2147483648 ≤ m ∧ m < 2147483648) : MI l γ yX12_copy wsX12_copy rmX12_copy [.ref (a 0), .int (iN (d)), .int (iN (i)), .int (iN (e)), .int (iN (j)), .int (iN (m))] (WM γ a mh mn mkd mfg mag mpo mwy mdy mhw mkk mkf mrs mrm mrw mth 0 mgr mwa mre mpl mib msn mpn mlo mtl mke mim mhi mp0 mtk mki mun msd mbe) (fun r_ w_ => ((((0 ≤ d ∧ d ≤ 7) ∧ 0 ≤ e ∧ e ≤ 7) ∧ (mhw d = 2 ∧ mhw e = 2 ∧ mrs d = mrs e) ∧ (0 ≤ m ∧ 0 ≤ i ∧ 0 ≤ j) ∧ i + m ≤ mrm d ∧ j + m ≤ mrm e) ∧ r_ = m ∧ Wk γ a mh mn mkd mfg mag mpo mwy mdy mhw mkk mkf mrs mrm (cpz mrw mrw (100 * d + i) (100 * e + j) m) 0 mim mhi w_) ∨ (¬ (((0 ≤ d ∧ d ≤ 7) ∧ 0 ≤ e ∧ e ≤ 7) ∧ (mhw d = 2 ∧ mhw e = 2 ∧ mrs d = mrs e) ∧ (0 ≤ m ∧ 0 ≤ i ∧ 0 ≤ j) ∧ i + m ≤ mrm d ∧ j + m ≤ mrm e) ∧ r_ = (if (0 ≤ d ∧ d ≤ 7) ∧ 0 ≤ e ∧ e ≤ 7 then (if mhw d = 0 ∨ mhw e = 0 then -11 else if mhw d = 2 ∧ mhw e = 2 ∧ mrs d = mrs e then -13 else -12) else -1) ∧ Wk γ a mh mn mkd mfg mag mpo mwy mdy mhw mkk mkf mrs mrm mrw 0 mim mhi w_)) 0 0 := by
  refine MI.of (cc := cX12_copy) (maxL := 7) (rt := .int) RX12 rfl (by decide +kernel) rfl (Nat.le_of_ble_eq_true rfl) ?_
  intro X C hγ hl hnm hret
  subst hγ
  have hMn := WFm.n hM
  show Wx X 0 0 (WM X.γ a mh mn mkd mfg mag mpo mwy mdy mhw mkk mkf mrs mrm mrw mth 0 mgr mwa mre mpl mib msn mpn mlo mtl mke mim mhi mp0 mtk mki mun msd mbe) 0 [(0, .ref (a 0)), (1, .int (iN (d))), (2, .int (iN (i))), (3, .int (iN (e))), (4, .int (iN (j))), (5, .int (iN (m)))] []
  refine x_aload_n C 0 rfl rfl dX12_copy_0 ?_
  refine x_iconst (v := 0) C dX12_copy_1 ?_
  refine x_put C in_X12_copy_X12 tyX12 tyX12_ok nmX12 0 rfl rfl 14 (by decide) (List.mem_of_getElem? (i := 1) rfl) rfl rfl rfl rfl rfl (Nat.le_of_ble_eq_true rfl) (WM X.γ a mh mn mkd mfg mag mpo mwy mdy mhw mkk mkf mrs mrm mrw 0 0 mgr mwa mre mpl mib msn mpn mlo mtl mke mim mhi mp0 mtk mki mun msd mbe) rfl dX12_copy_2 ?_
  refine x_iload_n C 1 rfl rfl dX12_copy_5 ?_
  refine x_i2l C (by omega) dX12_copy_6 ?_
  refine x_lconst C 0 rfl dX12_copy_7 ?_
  refine x_ldc2 C (7) (List.mem_of_getElem? (i := 2) rfl) (by decide) dX12_copy_8 ?_
  refine x_S_I C (As := [.long (jN (d)), .long (jN (0)), .long (jN (7))]) (rest := []) 3 gX12_copy_X12_in (c_X12_in _ _ (WM X.γ a mh mn mkd mfg mag mpo mwy mdy mhw mkk mkf mrs mrm mrw 0 0 mgr mwa mre mpl mib msn mpn mlo mtl mke mim mhi mp0 mtk mki mun msd mbe) (d) (0) (7) (by omega) (by omega) (by omega)) rfl ok_X12_in rfl rfl rfl rfl dX12_copy_11 (fun r w1 hp => ?_)
  obtain ⟨rfl, rfl⟩ := hp
  refine x_ifeq_bz C 29 (by decide) dX12_copy_14 (fun c_14 => ?_) (fun c_14 => ?_)
  · refine x_iconst (v := 0) C dX12_copy_29 ?_
    exact hret _ _ _ _ dX12_copy_30 rfl (Or.inr ⟨(by omega), (by omega), Wk.mk⟩)
  · refine x_iload_n C 3 rfl rfl dX12_copy_17 ?_
    refine x_i2l C (by omega) dX12_copy_18 ?_
    refine x_lconst C 0 rfl dX12_copy_19 ?_
    refine x_ldc2 C (7) (List.mem_of_getElem? (i := 2) rfl) (by decide) dX12_copy_20 ?_
    refine x_S_I C (As := [.long (jN (e)), .long (jN (0)), .long (jN (7))]) (rest := []) 3 gX12_copy_X12_in (c_X12_in _ _ (WM X.γ a mh mn mkd mfg mag mpo mwy mdy mhw mkk mkf mrs mrm mrw 0 0 mgr mwa mre mpl mib msn mpn mlo mtl mke mim mhi mp0 mtk mki mun msd mbe) (e) (0) (7) (by omega) (by omega) (by omega)) rfl ok_X12_in rfl rfl rfl rfl dX12_copy_23 (fun r w1 hp => ?_)
    obtain ⟨rfl, rfl⟩ := hp
    refine x_ifne_bz C 31 (by decide) dX12_copy_26 (fun c_26 => ?_) (fun c_26 => ?_)
    · refine x_aload_n C 0 rfl rfl dX12_copy_31 ?_
      refine x_get C in_X12_copy_X12 0 rfl rfl 8 (by decide) (List.mem_of_getElem? (i := 3) rfl) rfl (v := .ref (a 7)) rfl dX12_copy_32 ?_
      refine x_iload_n C 1 rfl rfl dX12_copy_35 ?_
      refine x_iaload C (f := mhw) 7 rfl (by omega) rfl dX12_copy_36 ?_
      have b164 := WFm.hw hM (d)
      refine x_if_eq C 49 (by decide) (by omega) dX12_copy_37 (fun c_37 => ?_) (fun c_37 => ?_)
      · refine x_bipush C (-11) (by decide) dX12_copy_49 ?_
        exact hret _ _ _ _ dX12_copy_51 rfl (Or.inr ⟨(by omega), (by omega), Wk.mk⟩)
      · refine x_aload_n C 0 rfl rfl dX12_copy_40 ?_
        refine x_get C in_X12_copy_X12 0 rfl rfl 8 (by decide) (List.mem_of_getElem? (i := 3) rfl) rfl (v := .ref (a 7)) rfl dX12_copy_41 ?_
        refine x_iload_n C 3 rfl rfl dX12_copy_44 ?_
        refine x_iaload C (f := mhw) 7 rfl (by omega) rfl dX12_copy_45 ?_
        have b165 := WFm.hw hM (e)
        refine x_if_ne C 52 (by decide) (by omega) dX12_copy_46 (fun c_46 => ?_) (fun c_46 => ?_)
        · refine x_aload_n C 0 rfl rfl dX12_copy_52 ?_
          refine x_get C in_X12_copy_X12 0 rfl rfl 8 (by decide) (List.mem_of_getElem? (i := 3) rfl) rfl (v := .ref (a 7)) rfl dX12_copy_53 ?_
          refine x_iload_n C 1 rfl rfl dX12_copy_56 ?_
          refine x_iaload C (f := mhw) 7 rfl (by omega) rfl dX12_copy_57 ?_
          have b166 := WFm.hw hM (d)
          refine x_iconst (v := 0) C dX12_copy_58 ?_
          refine x_icmp_ne C 87 (by decide) (by omega) dX12_copy_59 (fun c_59 => ?_) (fun c_59 => ?_)
          · refine x_bipush C (-12) (by decide) dX12_copy_87 ?_
            exact hret _ _ _ _ dX12_copy_89 rfl (Or.inr ⟨(by omega), (by omega), Wk.mk⟩)
          · refine x_aload_n C 0 rfl rfl dX12_copy_62 ?_
            refine x_get C in_X12_copy_X12 0 rfl rfl 8 (by decide) (List.mem_of_getElem? (i := 3) rfl) rfl (v := .ref (a 7)) rfl dX12_copy_63 ?_
            refine x_iload_n C 3 rfl rfl dX12_copy_66 ?_
            refine x_iaload C (f := mhw) 7 rfl (by omega) rfl dX12_copy_67 ?_
            have b167 := WFm.hw hM (e)
            refine x_iconst (v := 0) C dX12_copy_68 ?_
            refine x_icmp_ne C 87 (by decide) (by omega) dX12_copy_69 (fun c_69 => ?_) (fun c_69 => ?_)
            · refine x_bipush C (-12) (by decide) dX12_copy_87 ?_
              exact hret _ _ _ _ dX12_copy_89 rfl (Or.inr ⟨(by omega), (by omega), Wk.mk⟩)
            · refine x_aload_n C 0 rfl rfl dX12_copy_72 ?_
              refine x_get C in_X12_copy_X12 0 rfl rfl 11 (by decide) (List.mem_of_getElem? (i := 4) rfl) rfl (v := .ref (a 10)) rfl dX12_copy_73 ?_
              refine x_iload_n C 1 rfl rfl dX12_copy_76 ?_
              refine x_iaload C (f := mrs) 10 rfl (by omega) rfl dX12_copy_77 ?_
              have b168 := WFm.rs hM (d)
              refine x_aload_n C 0 rfl rfl dX12_copy_78 ?_
              refine x_get C in_X12_copy_X12 0 rfl rfl 11 (by decide) (List.mem_of_getElem? (i := 4) rfl) rfl (v := .ref (a 10)) rfl dX12_copy_79 ?_
              refine x_iload_n C 3 rfl rfl dX12_copy_82 ?_
              refine x_iaload C (f := mrs) 10 rfl (by omega) rfl dX12_copy_83 ?_
              have b169 := WFm.rs hM (e)
              refine x_icmp_eq C 90 (by decide) (by omega) dX12_copy_84 (fun c_84 => ?_) (fun c_84 => ?_)
              · refine x_iload C 5 rfl dX12_copy_90 ?_
                refine x_if_lt C 131 (by decide) (by omega) dX12_copy_92 (fun c_92 => ?_) (fun c_92 => ?_)
                · refine x_bipush C (-13) (by decide) dX12_copy_131 ?_
                  exact hret _ _ _ _ dX12_copy_133 rfl (Or.inr ⟨(by omega), (by omega), Wk.mk⟩)
                · refine x_iload_n C 2 rfl rfl dX12_copy_95 ?_
                  refine x_if_lt C 131 (by decide) (by omega) dX12_copy_96 (fun c_96 => ?_) (fun c_96 => ?_)
                  · refine x_bipush C (-13) (by decide) dX12_copy_131 ?_
                    exact hret _ _ _ _ dX12_copy_133 rfl (Or.inr ⟨(by omega), (by omega), Wk.mk⟩)
                  · refine x_iload C 4 rfl dX12_copy_99 ?_
                    refine x_if_lt C 131 (by decide) (by omega) dX12_copy_101 (fun c_101 => ?_) (fun c_101 => ?_)
                    · refine x_bipush C (-13) (by decide) dX12_copy_131 ?_
                      exact hret _ _ _ _ dX12_copy_133 rfl (Or.inr ⟨(by omega), (by omega), Wk.mk⟩)
                    · refine x_iload_n C 2 rfl rfl dX12_copy_104 ?_
                      refine x_aload_n C 0 rfl rfl dX12_copy_105 ?_
                      refine x_get C in_X12_copy_X12 0 rfl rfl 12 (by decide) (List.mem_of_getElem? (i := 5) rfl) rfl (v := .ref (a 11)) rfl dX12_copy_106 ?_
                      refine x_iload_n C 1 rfl rfl dX12_copy_109 ?_
                      refine x_iaload C (f := mrm) 11 rfl (by omega) rfl dX12_copy_110 ?_
                      have b170 := WFm.rm hM (d)
                      refine x_iload C 5 rfl dX12_copy_111 ?_
                      refine x_isub C dX12_copy_113 ?_
                      refine x_icmp_gt C 131 (by decide) (by omega) dX12_copy_114 (fun c_114 => ?_) (fun c_114 => ?_)
                      · refine x_bipush C (-13) (by decide) dX12_copy_131 ?_
                        exact hret _ _ _ _ dX12_copy_133 rfl (Or.inr ⟨(by omega), (by omega), Wk.mk⟩)
                      · refine x_iload C 4 rfl dX12_copy_117 ?_
                        refine x_aload_n C 0 rfl rfl dX12_copy_119 ?_
                        refine x_get C in_X12_copy_X12 0 rfl rfl 12 (by decide) (List.mem_of_getElem? (i := 5) rfl) rfl (v := .ref (a 11)) rfl dX12_copy_120 ?_
                        refine x_iload_n C 3 rfl rfl dX12_copy_123 ?_
                        refine x_iaload C (f := mrm) 11 rfl (by omega) rfl dX12_copy_124 ?_
                        have b171 := WFm.rm hM (e)
                        refine x_iload C 5 rfl dX12_copy_125 ?_
                        refine x_isub C dX12_copy_127 ?_
                        refine x_icmp_le C 134 (by decide) (by omega) dX12_copy_128 (fun c_128 => ?_) (fun c_128 => ?_)
                        · refine x_iconst (v := 0) C dX12_copy_134 ?_
                          refine x_istore C [(6, .int (iN (0))), (0, .ref (a 0)), (1, .int (iN (d))), (2, .int (iN (i))), (3, .int (iN (e))), (4, .int (iN (j))), (5, .int (iN (m)))] (by decide) rfl dX12_copy_135 ?_
                          have LP137 : ∀ (f : Nat) (k : Nat) (BE : Int → Int) (v6_137 : Int), (m.toNat - k < f) → (k ≤ m.toNat) → (∀ t : Int, 0 ≤ t → t < (k : Int) → BE t = mrw (100 * d + i + t)) → (((k : Int)) = v6_137) → Wx X 0 0 (WM X.γ a mh mn mkd mfg mag mpo mwy mdy mhw mkk mkf mrs mrm mrw 0 0 mgr mwa mre mpl mib msn mpn mlo mtl mke mim mhi mp0 mtk mki mun msd BE) 137 [(6, .int (iN (v6_137))), (0, .ref (a 0)), (1, .int (iN (d))), (2, .int (iN (i))), (3, .int (iN (e))), (4, .int (iN (j))), (5, .int (iN (m)))] [] := by
                            intro f
                            induction f with
                            | zero => intro k BE v6_137 hf; exact absurd hf (Nat.not_lt_zero _)
                            | succ f ih137 =>
                              intro k BE v6_137 hf hk hB e6_137
                              subst e6_137
                              refine x_iload C 0 rfl dX12_copy_137 ?_
                              refine x_iload C 6 rfl dX12_copy_139 ?_
                              refine x_icmp_ge C 171 (by decide) (by omega) dX12_copy_141 (fun c_141 => ?_) (fun c_141 => ?_)
                              · refine x_iconst (v := 0) C dX12_copy_171 ?_
                                refine x_istore C [(6, .int (iN (0))), (0, .ref (a 0)), (1, .int (iN (d))), (2, .int (iN (i))), (3, .int (iN (e))), (4, .int (iN (j))), (5, .int (iN (m)))] (by decide) rfl dX12_copy_172 ?_
                                have LP174 : ∀ (f : Nat) (k2 : Nat) (v6_174 : Int), (m.toNat - k2 < f) → (k2 ≤ m.toNat) → (((k2 : Int)) = v6_174) → Wx X 0 0 (WM X.γ a mh mn mkd mfg mag mpo mwy mdy mhw mkk mkf mrs mrm (cpz mrw mrw (100 * d + i) (100 * e + j) (k2 : Int)) 0 0 mgr mwa mre mpl mib msn mpn mlo mtl mke mim mhi mp0 mtk mki mun msd BE) 174 [(6, .int (iN (v6_174))), (0, .ref (a 0)), (1, .int (iN (d))), (2, .int (iN (i))), (3, .int (iN (e))), (4, .int (iN (j))), (5, .int (iN (m)))] [] := by
                                  intro f
                                  induction f with
                                  | zero => intro k2 v6_174 hf; exact absurd hf (Nat.not_lt_zero _)
                                  | succ f ih174 =>
                                    intro k2 v6_174 hf hk2 e6_174
                                    subst e6_174
                                    refine x_iload C 0 rfl dX12_copy_174 ?_
                                    refine x_iload C 6 rfl dX12_copy_176 ?_
                                    refine x_icmp_ge C 209 (by decide) (by omega) dX12_copy_178 (fun c_178 => ?_) (fun c_178 => ?_)
                                    · refine Wx.eqW (ws' := (WM X.γ a mh mn mkd mfg mag mpo mwy mdy mhw mkk mkf mrs mrm (cpz mrw mrw (100 * d + i) (100 * e + j) m) 0 0 mgr mwa mre mpl mib msn mpn mlo mtl mke mim mhi mp0 mtk mki mun msd BE)) (by rw [show ((k2 : Nat) : Int) = m by omega]) ?_
                                      refine x_iload C 6 rfl dX12_copy_209 ?_
                                      exact hret _ _ _ _ dX12_copy_211 rfl (Or.inl ⟨(by omega), rfl, Wk.mk⟩)
                                    · refine x_aload_n C 1 rfl rfl dX12_copy_181 ?_
                                      refine x_get C in_X12_copy_X12 0 rfl rfl 13 (by decide) (List.mem_of_getElem? (i := 7) rfl) rfl (v := .ref (a 12)) rfl dX12_copy_182 ?_
                                      refine x_bipush C (100) (by decide) dX12_copy_185 ?_
                                      refine x_iload_n C 4 rfl rfl dX12_copy_187 ?_
                                      refine x_imul C dX12_copy_188 ?_
                                      refine x_iload C 5 rfl dX12_copy_189 ?_
                                      refine x_iadd C dX12_copy_191 ?_
                                      refine x_iload C 0 rfl dX12_copy_192 ?_
                                      refine x_iadd C dX12_copy_194 ?_
                                      refine x_aload_n C 1 rfl rfl dX12_copy_195 ?_
                                      refine x_get C in_X12_copy_X12 0 rfl rfl 33 (by decide) (List.mem_of_getElem? (i := 6) rfl) rfl (v := .ref (a 21)) rfl dX12_copy_196 ?_
                                      refine x_iload C 0 rfl dX12_copy_199 ?_
                                      refine x_laload C (f := BE) 21 rfl (by omega) rfl dX12_copy_201 ?_
                                      refine x_lastore C (f := (cpz mrw mrw (100 * d + i) (100 * e + j) (k2 : Int))) 12 rfl (by omega) rfl (WM X.γ a mh mn mkd mfg mag mpo mwy mdy mhw mkk mkf mrs mrm (upz (cpz mrw mrw (100 * d + i) (100 * e + j) (k2 : Int)) (((100 * e) + j) + (k2 : Int)) (BE (k2 : Int))) 0 0 mgr mwa mre mpl mib msn mpn mlo mtl mke mim mhi mp0 mtk mki mun msd BE) rfl dX12_copy_202 ?_
                                      refine x_iinc C 0 [(6, .int (iN ((k2 : Int) + 1))), (0, .ref (a 0)), (1, .int (iN (d))), (2, .int (iN (i))), (3, .int (iN (e))), (4, .int (iN (j))), (5, .int (iN (m)))] rfl rfl (by decide) rfl dX12_copy_203 ?_
                                      refine x_goto C 174 (by decide) dX12_copy_206 ?_
                                      refine Wx.eqW (ws' := (WM X.γ a mh mn mkd mfg mag mpo mwy mdy mhw mkk mkf mrs mrm (cpz mrw mrw (100 * d + i) (100 * e + j) ((k2 + 1 : Nat) : Int)) 0 0 mgr mwa mre mpl mib msn mpn mlo mtl mke mim mhi mp0 mtk mki mun msd BE)) (by rw [cpz_s, hB (k2 : Int) (by omega) (by omega)]) ?_
                                      exact ih174 (k2 + 1) _ (by omega) (by omega) (by omega)
                                refine Wx.eqW (ws' := (WM X.γ a mh mn mkd mfg mag mpo mwy mdy mhw mkk mkf mrs mrm (cpz mrw mrw (100 * d + i) (100 * e + j) ((0 : Nat) : Int)) 0 0 mgr mwa mre mpl mib msn mpn mlo mtl mke mim mhi mp0 mtk mki mun msd BE)) (by rw [cpz_0]) ?_
                                exact LP174 ((m.toNat - (0)) + 1) (0) _ (by omega) (by omega) (by omega)
                              · refine x_aload_n C 1 rfl rfl dX12_copy_144 ?_
                                refine x_get C in_X12_copy_X12 0 rfl rfl 33 (by decide) (List.mem_of_getElem? (i := 6) rfl) rfl (v := .ref (a 21)) rfl dX12_copy_145 ?_
                                refine x_iload C 0 rfl dX12_copy_148 ?_
                                refine x_aload_n C 1 rfl rfl dX12_copy_150 ?_
                                refine x_get C in_X12_copy_X12 0 rfl rfl 13 (by decide) (List.mem_of_getElem? (i := 7) rfl) rfl (v := .ref (a 12)) rfl dX12_copy_151 ?_
                                refine x_bipush C (100) (by decide) dX12_copy_154 ?_
                                refine x_iload_n C 2 rfl rfl dX12_copy_156 ?_
                                refine x_imul C dX12_copy_157 ?_
                                refine x_iload_n C 3 rfl rfl dX12_copy_158 ?_
                                refine x_iadd C dX12_copy_159 ?_
                                refine x_iload C 0 rfl dX12_copy_160 ?_
                                refine x_iadd C dX12_copy_162 ?_
                                refine x_laload C (f := mrw) 12 rfl (by omega) rfl dX12_copy_163 ?_
                                have b172 := WFm.rw hM (((100 * d) + i) + (k : Int))
                                refine x_lastore C (f := BE) 21 rfl (by omega) rfl (WM X.γ a mh mn mkd mfg mag mpo mwy mdy mhw mkk mkf mrs mrm mrw 0 0 mgr mwa mre mpl mib msn mpn mlo mtl mke mim mhi mp0 mtk mki mun msd (upz BE (k : Int) (mrw (((100 * d) + i) + (k : Int))))) rfl dX12_copy_164 ?_
                                refine x_iinc C 0 [(6, .int (iN ((k : Int) + 1))), (0, .ref (a 0)), (1, .int (iN (d))), (2, .int (iN (i))), (3, .int (iN (e))), (4, .int (iN (j))), (5, .int (iN (m)))] rfl rfl (by decide) rfl dX12_copy_165 ?_
                                refine x_goto C 137 (by decide) dX12_copy_168 ?_
                                exact ih137 (k + 1) (upz BE (k : Int) (mrw (((100 * d) + i) + (k : Int)))) _ (by omega) (by omega) (fun t h1 h2 => upz_up (F := fun t => mrw (100 * d + i + t)) hB rfl t h1 (by omega)) (by omega)
                          exact LP137 ((m.toNat - (0)) + 1) (0) (mbe) _ (by omega) (by omega) (fun t h1 h2 => by omega) (by omega)
                        · refine x_bipush C (-13) (by decide) dX12_copy_131 ?_
                          exact hret _ _ _ _ dX12_copy_133 rfl (Or.inr ⟨(by omega), (by omega), Wk.mk⟩)
              · refine x_bipush C (-12) (by decide) dX12_copy_87 ?_
                exact hret _ _ _ _ dX12_copy_89 rfl (Or.inr ⟨(by omega), (by omega), Wk.mk⟩)
        · refine x_bipush C (-11) (by decide) dX12_copy_49 ?_
          exact hret _ _ _ _ dX12_copy_51 rfl (Or.inr ⟨(by omega), (by omega), Wk.mk⟩)
    · refine x_iconst (v := 0) C dX12_copy_29 ?_
      exact hret _ _ _ _ dX12_copy_30 rfl (Or.inr ⟨(by omega), (by omega), Wk.mk⟩)
end HSM2al
