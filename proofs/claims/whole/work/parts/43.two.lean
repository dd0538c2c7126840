section HTWO
theorem in_X12_two_X12 : ∀ w ∈ u_ws RX12 TX12 34, w ∈ wsX12_two := by decide +kernel
theorem ok_X12_two : okY yX12_two 2 := by decide +kernel
def rmX12_two : Room := { frames := 4, cells := 0, slots := 0, locals := 88 }
set_option maxRecDepth 100000 in
set_option maxHeartbeats 400000 in
theorem c_X12_two (l : Launch) (γ : GX) (a : Nat → Nat) (mh : Int → Int) (mn : Int) (mkd : Int → Int) (mfg : Int → Int) (mag : Int → Int) (mpo : Int → Int) (mwy : Int → Int) (mdy : Int) (mhw : Int → Int) (mkk : Int → Int) (mkf : Int → Int) (mrs : Int → Int) (mrm : Int → Int) (mrw : Int → Int) (mth : Int) (mgr : Int → Int) (mwa : Int → Int) (mre : Int) (mpl : Int) (mib : Int) (msn : Int) (mpn : Int → Int) (mlo : Int → Int) (mtl : Int → Int) (mke : Int → Int) (mim : Int → Int) (mhi : Int) (mp0 : Int) (mtk : Int) (mki : Value) (mun : Int → Int) (msd : Int) (mbe : Int → Int) (hM : WFm mn mh mkd mfg mag mpo mwy mhw mkk mkf mrs mrm mrw) (i : Int) (j : Int) (h0_ : -2147483648 ≤ i ∧ i < 2147483648) (h1_ : -2147483648 ≤ j ∧ j < 2147483648) : MI l γ yX12_two wsX12_two rmX12_two [.ref (a 0), .int (iN (i)), .int (iN (j))] (WM γ a mh mn mkd mfg mag mpo mwy mdy mhw mkk mkf mrs mrm mrw mth 0 mgr mwa mre mpl mib msn mpn mlo mtl mke mim mhi mp0 mtk mki mun msd mbe) (fun r_ w_ => r_ = q_two (Lc mh mn mdy mkd mfg mag mpo mwy) i j ∧ Wk γ a mh mn mkd mfg mag mpo mwy mdy mhw mkk mkf mrs mrm mrw 0 mim mhi w_) 0 0 := by
  refine MI.of (cc := cX12_two) (maxL := 8) (rt := .int) RX12 rfl (by decide +kernel) rfl (Nat.le_of_ble_eq_true rfl) ?_
  intro X C hγ hl hnm hret
  subst hγ
  have hMn := WFm.n hM
  show Wx X 0 0 (WM X.γ a mh mn mkd mfg mag mpo mwy mdy mhw mkk mkf mrs mrm mrw mth 0 mgr mwa mre mpl mib msn mpn mlo mtl mke mim mhi mp0 mtk mki mun msd mbe) 0 [(0, .ref (a 0)), (1, .int (iN (i))), (2, .int (iN (j)))] []
  refine x_aload_n C 0 rfl rfl dX12_two_0 ?_
  refine x_iconst (v := 0) C dX12_two_1 ?_
  refine x_put C in_X12_two_X12 tyX12 tyX12_ok nmX12 0 rfl rfl 14 (by decide) (List.mem_of_getElem? (i := 1) rfl) rfl rfl rfl rfl rfl (Nat.le_of_ble_eq_true rfl) (WM X.γ a mh mn mkd mfg mag mpo mwy mdy mhw mkk mkf mrs mrm mrw 0 0 mgr mwa mre mpl mib msn mpn mlo mtl mke mim mhi mp0 mtk mki mun msd mbe) rfl dX12_two_2 ?_
  refine x_aload_n C 0 rfl rfl dX12_two_5 ?_
  refine x_iload_n C 1 rfl rfl dX12_two_6 ?_
  refine x_V_I C (As := [.int (iN (i))]) (rest := []) 1 0 rfl rfl gX12_two_X12_isOne rfl (c_X12_isOne _ _ a mh mn mkd mfg mag mpo mwy mdy mhw mkk mkf mrs mrm mrw 0 0 mgr mwa mre mpl mib msn mpn mlo mtl mke mim mhi mp0 mtk mki mun msd mbe hM (i) (by omega)) rfl ok_X12_isOne rfl rfl rfl rfl dX12_two_7 (fun r w1 hp => ?_)
  obtain ⟨rfl, rfl⟩ := hp
  refine x_ifeq_bz C 26 (by decide) dX12_two_10 (fun c_10 => ?_) (fun c_10 => ?_)
  · refine x_iconst (v := 0) C dX12_two_26 ?_
    exact hret _ _ _ _ dX12_two_27 rfl ⟨(by unfold q_two; rw [if_neg (show ¬ (q_one (Lc mh mn mdy mkd mfg mag mpo mwy) i ∧ q_one (Lc mh mn mdy mkd mfg mag mpo mwy) j ∧ i ≠ j) from (show ¬ ((0 ≤ i ∧ i ≤ mn - 1) ∧ (0 ≤ j ∧ j ≤ mn - 1) ∧ i ≠ j) by omega))]), Wk.mk⟩
  · refine x_aload_n C 0 rfl rfl dX12_two_13 ?_
    refine x_iload_n C 2 rfl rfl dX12_two_14 ?_
    refine x_V_I C (As := [.int (iN (j))]) (rest := []) 1 0 rfl rfl gX12_two_X12_isOne rfl (c_X12_isOne _ _ a mh mn mkd mfg mag mpo mwy mdy mhw mkk mkf mrs mrm mrw 0 0 mgr mwa mre mpl mib msn mpn mlo mtl mke mim mhi mp0 mtk mki mun msd mbe hM (j) (by omega)) rfl ok_X12_isOne rfl rfl rfl rfl dX12_two_15 (fun r w1 hp => ?_)
    obtain ⟨rfl, rfl⟩ := hp
    refine x_ifeq_bz C 26 (by decide) dX12_two_18 (fun c_18 => ?_) (fun c_18 => ?_)
    · refine x_iconst (v := 0) C dX12_two_26 ?_
      exact hret _ _ _ _ dX12_two_27 rfl ⟨(by unfold q_two; rw [if_neg (show ¬ (q_one (Lc mh mn mdy mkd mfg mag mpo mwy) i ∧ q_one (Lc mh mn mdy mkd mfg mag mpo mwy) j ∧ i ≠ j) from (show ¬ ((0 ≤ i ∧ i ≤ mn - 1) ∧ (0 ≤ j ∧ j ≤ mn - 1) ∧ i ≠ j) by omega))]), Wk.mk⟩
    · refine x_iload_n C 1 rfl rfl dX12_two_21 ?_
      refine x_iload_n C 2 rfl rfl dX12_two_22 ?_
      refine x_icmp_ne C 28 (by decide) (by omega) dX12_two_23 (fun c_23 => ?_) (fun c_23 => ?_)
      · refine x_aload_n C 0 rfl rfl dX12_two_28 ?_
        refine x_get C in_X12_two_X12 0 rfl rfl 5 (by decide) (List.mem_of_getElem? (i := 2) rfl) rfl (v := .ref (a 5)) rfl dX12_two_29 ?_
        refine x_iload_n C 1 rfl rfl dX12_two_32 ?_
        refine x_iaload C (f := mpo) 5 rfl (by omega) rfl dX12_two_33 ?_
        have b182 := WFm.po hM (i)
        refine x_istore_n C [(3, .int (iN (mpo i))), (0, .ref (a 0)), (1, .int (iN (i))), (2, .int (iN (j)))] rfl (by decide) rfl dX12_two_34 ?_
        refine x_aload_n C 1 rfl rfl dX12_two_35 ?_
        refine x_get C in_X12_two_X12 0 rfl rfl 5 (by decide) (List.mem_of_getElem? (i := 2) rfl) rfl (v := .ref (a 5)) rfl dX12_two_36 ?_
        refine x_iload_n C 3 rfl rfl dX12_two_39 ?_
        refine x_iaload C (f := mpo) 5 rfl (by omega) rfl dX12_two_40 ?_
        have b183 := WFm.po hM (j)
        refine x_istore C [(4, .int (iN (mpo j))), (3, .int (iN (mpo i))), (0, .ref (a 0)), (1, .int (iN (i))), (2, .int (iN (j)))] (by decide) rfl dX12_two_41 ?_
        refine x_iconst (v := 0) C dX12_two_43 ?_
        refine x_istore C [(5, .int (iN (0))), (4, .int (iN (mpo j))), (3, .int (iN (mpo i))), (0, .ref (a 0)), (1, .int (iN (i))), (2, .int (iN (j)))] (by decide) rfl dX12_two_44 ?_
        have LP46 : ∀ (f : Nat) (k : Nat) (x : Int) (y : Int) (UN : Int → Int) (G : Int → Int) (v5_46 : Int), (4 - k < f) → (k ≤ 4) → (∀ t : Int, 0 ≤ t → t < (k : Int) → UN (2 * t) = twu (Lc mh mn mdy mkd mfg mag mpo mwy) i j t ∧ UN (2 * t + 1) = twv (Lc mh mn mdy mkd mfg mag mpo mwy) i j t) → (((k : Int)) = v5_46) → Wx X 0 0 (WM X.γ a mh mn mkd mfg mag (upz (upz mpo i x) j y) mwy mdy mhw mkk mkf mrs mrm mrw 0 0 G mwa mre mpl mib msn mpn mlo mtl mke mim mhi mp0 mtk mki UN msd mbe) 46 [(5, .int (iN (v5_46))), (4, .int (iN (mpo j))), (3, .int (iN (mpo i))), (0, .ref (a 0)), (1, .int (iN (i))), (2, .int (iN (j)))] [] := by
          intro f
          induction f with
          | zero => intro k x y UN G v5_46 hf; exact absurd hf (Nat.not_lt_zero _)
          | succ f ih46 =>
            intro k x y UN G v5_46 hf hk hU e5_46
            subst e5_46
            refine x_iload C 0 rfl dX12_two_46 ?_
            refine x_iconst (v := 0) C dX12_two_48 ?_
            refine x_icmp_ge C 138 (by decide) (by omega) dX12_two_49 (fun c_49 => ?_) (fun c_49 => ?_)
            · refine x_aload_n C 3 rfl rfl dX12_two_138 ?_
              refine x_get C in_X12_two_X12 0 rfl rfl 5 (by decide) (List.mem_of_getElem? (i := 2) rfl) rfl (v := .ref (a 5)) rfl dX12_two_139 ?_
              refine x_iload_n C 4 rfl rfl dX12_two_142 ?_
              refine x_iload_n C 2 rfl rfl dX12_two_143 ?_
              refine x_iastore C (f := (upz (upz mpo i x) j y)) 5 rfl (by omega) rfl (WM X.γ a mh mn mkd mfg mag (upz (upz (upz mpo i x) j y) i (mpo i)) mwy mdy mhw mkk mkf mrs mrm mrw 0 0 G mwa mre mpl mib msn mpn mlo mtl mke mim mhi mp0 mtk mki UN msd mbe) rfl dX12_two_144 ?_
              refine x_aload_n C 3 rfl rfl dX12_two_145 ?_
              refine x_get C in_X12_two_X12 0 rfl rfl 5 (by decide) (List.mem_of_getElem? (i := 2) rfl) rfl (v := .ref (a 5)) rfl dX12_two_146 ?_
              refine x_iload_n C 5 rfl rfl dX12_two_149 ?_
              refine x_iload C 1 rfl dX12_two_150 ?_
              refine x_iastore C (f := (upz (upz (upz mpo i x) j y) i (mpo i))) 5 rfl (by omega) rfl (WM X.γ a mh mn mkd mfg mag (upz (upz (upz (upz mpo i x) j y) i (mpo i)) j (mpo j)) mwy mdy mhw mkk mkf mrs mrm mrw 0 0 G mwa mre mpl mib msn mpn mlo mtl mke mim mhi mp0 mtk mki UN msd mbe) rfl dX12_two_152 ?_
              refine Wx.eqW (ws' := (WM X.γ a mh mn mkd mfg mag mpo mwy mdy mhw mkk mkf mrs mrm mrw 0 0 G mwa mre mpl mib msn mpn mlo mtl mke mim mhi mp0 mtk mki UN msd mbe)) (by rw [upz4 c_23, upz_id, upz_id]) ?_
              refine x_iconst (v := 0) C dX12_two_153 ?_
              refine x_istore C [(5, .int (iN (0))), (4, .int (iN (mpo j))), (3, .int (iN (mpo i))), (0, .ref (a 0)), (1, .int (iN (i))), (2, .int (iN (j)))] (by decide) rfl dX12_two_154 ?_
              have LP156 : ∀ (f : Nat) (k2 : Nat) (v5_156 : Int), (4 - k2 < f) → (k2 ≤ 4) → (fstz (twf (Lc mh mn mdy mkd mfg mag mpo mwy) i j) k2 = -4) → (((k2 : Int)) = v5_156) → Wx X 0 0 (WM X.γ a mh mn mkd mfg mag mpo mwy mdy mhw mkk mkf mrs mrm mrw 0 0 G mwa mre mpl mib msn mpn mlo mtl mke mim mhi mp0 mtk mki UN msd mbe) 156 [(5, .int (iN (v5_156))), (4, .int (iN (mpo j))), (3, .int (iN (mpo i))), (0, .ref (a 0)), (1, .int (iN (i))), (2, .int (iN (j)))] [] := by
                intro f
                induction f with
                | zero => intro k2 v5_156 hf; exact absurd hf (Nat.not_lt_zero _)
                | succ f ih156 =>
                  intro k2 v5_156 hf hk2 hf2 e5_156
                  subst e5_156
                  refine x_iload C 0 rfl dX12_two_156 ?_
                  refine x_iconst (v := 0) C dX12_two_158 ?_
                  refine x_icmp_ge C 257 (by decide) (by omega) dX12_two_159 (fun c_159 => ?_) (fun c_159 => ?_)
                  · refine x_bipush C (-4) (by decide) dX12_two_257 ?_
                    exact hret _ _ _ _ dX12_two_259 rfl ⟨(by unfold q_two; rw [if_pos (show q_one (Lc mh mn mdy mkd mfg mag mpo mwy) i ∧ q_one (Lc mh mn mdy mkd mfg mag mpo mwy) j ∧ i ≠ j from ⟨(show 0 ≤ i ∧ i ≤ mn - 1 by omega), (show 0 ≤ j ∧ j ≤ mn - 1 by omega), c_23⟩), show fstz (twf (Lc mh mn mdy mkd mfg mag mpo mwy) i j) 4 = -4 from (by have hz : k2 = 4 := (by omega); rw [← hz]; exact hf2), if_pos (by decide)]), Wk.mk⟩
                  · refine x_iconst (v := 0) C dX12_two_162 ?_
                    refine x_iconst (v := 0) C dX12_two_163 ?_
                    refine x_iload C 0 rfl dX12_two_164 ?_
                    refine x_iconst (v := 0) C dX12_two_166 ?_
                    refine x_idiv C (by omega) dX12_two_167 ?_
                    refine x_isub C dX12_two_168 ?_
                    refine x_imul C dX12_two_169 ?_
                    refine x_iload C 0 rfl dX12_two_170 ?_
                    refine x_iconst (v := 0) C dX12_two_172 ?_
                    refine x_irem C (by omega) dX12_two_173 ?_
                    refine x_iadd C dX12_two_174 ?_
                    refine x_istore C [(6, .int (iN ((2 * (1 - ((k2 : Int) / 2))) + ((k2 : Int) % 2)))), (5, .int (iN ((k2 : Int)))), (4, .int (iN (mpo j))), (3, .int (iN (mpo i))), (0, .ref (a 0)), (1, .int (iN (i))), (2, .int (iN (j)))] (by decide) rfl dX12_two_175 ?_
                    refine x_iconst (v := 0) C dX12_two_177 ?_
                    refine x_iload C 1 rfl dX12_two_178 ?_
                    refine x_iconst (v := 0) C dX12_two_180 ?_
                    refine x_idiv C (by omega) dX12_two_181 ?_
                    refine x_imul C dX12_two_182 ?_
                    refine x_iconst (v := 0) C dX12_two_183 ?_
                    refine x_iadd C dX12_two_184 ?_
                    refine x_iload C 1 rfl dX12_two_185 ?_
                    refine x_iconst (v := 0) C dX12_two_187 ?_
                    refine x_irem C (by omega) dX12_two_188 ?_
                    refine x_isub C dX12_two_189 ?_
                    refine x_istore C [(7, .int (iN (((2 * ((k2 : Int) / 2)) + 1) - ((k2 : Int) % 2)))), (6, .int (iN ((2 * (1 - ((k2 : Int) / 2))) + ((k2 : Int) % 2)))), (5, .int (iN ((k2 : Int)))), (4, .int (iN (mpo j))), (3, .int (iN (mpo i))), (0, .ref (a 0)), (1, .int (iN (i))), (2, .int (iN (j)))] (by decide) rfl dX12_two_190 ?_
                    refine x_aload_n C 5 rfl rfl dX12_two_192 ?_
                    refine x_get C in_X12_two_X12 0 rfl rfl 31 (by decide) (List.mem_of_getElem? (i := 3) rfl) rfl (v := .ref (a 20)) rfl dX12_two_193 ?_
                    refine x_iconst (v := 0) C dX12_two_196 ?_
                    refine x_iload C 2 rfl dX12_two_197 ?_
                    refine x_imul C dX12_two_199 ?_
                    refine x_iaload C (f := UN) 20 rfl (by omega) rfl dX12_two_200 ?_
                    have b184 := twu_b (WFm.L hM mdy) i j (k2 : Int)
                    rw [show UN (2 * (k2 : Int)) = twu (Lc mh mn mdy mkd mfg mag mpo mwy) i j (k2 : Int) from (hU (k2 : Int) (by omega) (by omega)).1]
                    refine x_aload_n C 5 rfl rfl dX12_two_201 ?_
                    refine x_get C in_X12_two_X12 0 rfl rfl 31 (by decide) (List.mem_of_getElem? (i := 3) rfl) rfl (v := .ref (a 20)) rfl dX12_two_202 ?_
                    refine x_iconst (v := 0) C dX12_two_205 ?_
                    refine x_iload C 1 rfl dX12_two_206 ?_
                    refine x_imul C dX12_two_208 ?_
                    refine x_iaload C (f := UN) 20 rfl (by omega) rfl dX12_two_209 ?_
                    have b185 := twu_b (WFm.L hM mdy) i j ((2 * (1 - ((k2 : Int) / 2))) + ((k2 : Int) % 2))
                    rw [show UN (2 * ((2 * (1 - ((k2 : Int) / 2))) + ((k2 : Int) % 2))) = twu (Lc mh mn mdy mkd mfg mag mpo mwy) i j ((2 * (1 - ((k2 : Int) / 2))) + ((k2 : Int) % 2)) from (hU ((2 * (1 - ((k2 : Int) / 2))) + ((k2 : Int) % 2)) (by omega) (by omega)).1]
                    refine x_icmp_gt C 251 (by decide) (by omega) dX12_two_210 (fun c_210 => ?_) (fun c_210 => ?_)
                    · refine x_iinc C 2 [(5, .int (iN ((k2 : Int) + 1))), (7, .int (iN (((2 * ((k2 : Int) / 2)) + 1) - ((k2 : Int) % 2)))), (6, .int (iN ((2 * (1 - ((k2 : Int) / 2))) + ((k2 : Int) % 2)))), (4, .int (iN (mpo j))), (3, .int (iN (mpo i))), (0, .ref (a 0)), (1, .int (iN (i))), (2, .int (iN (j)))] rfl rfl (by decide) rfl dX12_two_251 ?_
                      refine x_goto C 156 (by decide) dX12_two_254 ?_
                      refine Wx.subL [0, 3, 4, 5, 6, 7] rfl ?_
                      exact ih156 (k2 + 1) _ (by omega) (by omega) (fstz_p hf2 (show twf (Lc mh mn mdy mkd mfg mag mpo mwy) i j k2 = 1 from if_neg (fun z => absurd z.1 (by omega)))) (by omega)
                    · refine x_aload_n C 5 rfl rfl dX12_two_213 ?_
                      refine x_get C in_X12_two_X12 0 rfl rfl 31 (by decide) (List.mem_of_getElem? (i := 3) rfl) rfl (v := .ref (a 20)) rfl dX12_two_214 ?_
                      refine x_iconst (v := 0) C dX12_two_217 ?_
                      refine x_iload C 2 rfl dX12_two_218 ?_
                      refine x_imul C dX12_two_220 ?_
                      refine x_iconst (v := 0) C dX12_two_221 ?_
                      refine x_iadd C dX12_two_222 ?_
                      refine x_iaload C (f := UN) 20 rfl (by omega) rfl dX12_two_223 ?_
                      have b186 := twv_b (WFm.L hM mdy) i j (k2 : Int)
                      rw [show UN ((2 * (k2 : Int)) + 1) = twv (Lc mh mn mdy mkd mfg mag mpo mwy) i j (k2 : Int) from (hU (k2 : Int) (by omega) (by omega)).2]
                      refine x_aload_n C 5 rfl rfl dX12_two_224 ?_
                      refine x_get C in_X12_two_X12 0 rfl rfl 31 (by decide) (List.mem_of_getElem? (i := 3) rfl) rfl (v := .ref (a 20)) rfl dX12_two_225 ?_
                      refine x_iconst (v := 0) C dX12_two_228 ?_
                      refine x_iload C 0 rfl dX12_two_229 ?_
                      refine x_imul C dX12_two_231 ?_
                      refine x_iconst (v := 0) C dX12_two_232 ?_
                      refine x_iadd C dX12_two_233 ?_
                      refine x_iaload C (f := UN) 20 rfl (by omega) rfl dX12_two_234 ?_
                      have b187 := twv_b (WFm.L hM mdy) i j (((2 * ((k2 : Int) / 2)) + 1) - ((k2 : Int) % 2))
                      rw [show UN ((2 * (((2 * ((k2 : Int) / 2)) + 1) - ((k2 : Int) % 2))) + 1) = twv (Lc mh mn mdy mkd mfg mag mpo mwy) i j (((2 * ((k2 : Int) / 2)) + 1) - ((k2 : Int) % 2)) from (hU (((2 * ((k2 : Int) / 2)) + 1) - ((k2 : Int) % 2)) (by omega) (by omega)).2]
                      refine x_icmp_gt C 251 (by decide) (by omega) dX12_two_235 (fun c_235 => ?_) (fun c_235 => ?_)
                      · refine x_iinc C 2 [(5, .int (iN ((k2 : Int) + 1))), (7, .int (iN (((2 * ((k2 : Int) / 2)) + 1) - ((k2 : Int) % 2)))), (6, .int (iN ((2 * (1 - ((k2 : Int) / 2))) + ((k2 : Int) % 2)))), (4, .int (iN (mpo j))), (3, .int (iN (mpo i))), (0, .ref (a 0)), (1, .int (iN (i))), (2, .int (iN (j)))] rfl rfl (by decide) rfl dX12_two_251 ?_
                        refine x_goto C 156 (by decide) dX12_two_254 ?_
                        refine Wx.subL [0, 3, 4, 5, 6, 7] rfl ?_
                        exact ih156 (k2 + 1) _ (by omega) (by omega) (fstz_p hf2 (show twf (Lc mh mn mdy mkd mfg mag mpo mwy) i j k2 = 1 from if_neg (fun z => absurd z.2 (by omega)))) (by omega)
                      · refine x_bipush C (10) (by decide) dX12_two_238 ?_
                        refine x_iload C 2 rfl dX12_two_240 ?_
                        refine x_iconst (v := 0) C dX12_two_242 ?_
                        refine x_idiv C (by omega) dX12_two_243 ?_
                        refine x_imul C dX12_two_244 ?_
                        refine x_iload C 2 rfl dX12_two_245 ?_
                        refine x_iconst (v := 0) C dX12_two_247 ?_
                        refine x_irem C (by omega) dX12_two_248 ?_
                        refine x_iadd C dX12_two_249 ?_
                        exact hret _ _ _ _ dX12_two_250 rfl ⟨(by have e1 := fstz_f hf2 (show twf (Lc mh mn mdy mkd mfg mag mpo mwy) i j k2 = 0 from if_pos ⟨c_210, c_235⟩); unfold q_two; rw [if_pos (show q_one (Lc mh mn mdy mkd mfg mag mpo mwy) i ∧ q_one (Lc mh mn mdy mkd mfg mag mpo mwy) j ∧ i ≠ j from ⟨(show 0 ≤ i ∧ i ≤ mn - 1 by omega), (show 0 ≤ j ∧ j ≤ mn - 1 by omega), c_23⟩), fstz_end (twf (Lc mh mn mdy mkd mfg mag mpo mwy) i j) (k := k2 + 1) (by omega) (Or.inr (by rw [e1]; omega)), e1, if_neg (by omega)]), Wk.mk⟩
              exact LP156 ((4 - (0)) + 1) (0) _ (by omega) (by omega) (rfl) (by omega)
            · refine x_aload_n C 3 rfl rfl dX12_two_52 ?_
              refine x_get C in_X12_two_X12 0 rfl rfl 5 (by decide) (List.mem_of_getElem? (i := 2) rfl) rfl (v := .ref (a 5)) rfl dX12_two_53 ?_
              refine x_iload_n C 4 rfl rfl dX12_two_56 ?_
              refine x_iload C 0 rfl dX12_two_57 ?_
              refine x_iconst (v := 0) C dX12_two_59 ?_
              refine x_idiv C (by omega) dX12_two_60 ?_
              refine x_iconst (v := 0) C dX12_two_61 ?_
              have LP71 : ∀ (s0_71 : Int), (s0_71 = (if (k : Int) / 2 = 1 then mpo j else mpo i)) → Wx X 0 0 (WM X.γ a mh mn mkd mfg mag (upz (upz mpo i x) j y) mwy mdy mhw mkk mkf mrs mrm mrw 0 0 G mwa mre mpl mib msn mpn mlo mtl mke mim mhi mp0 mtk mki UN msd mbe) 71 [(5, .int (iN ((k : Int)))), (4, .int (iN (mpo j))), (3, .int (iN (mpo i))), (0, .ref (a 0)), (1, .int (iN (i))), (2, .int (iN (j)))] [.int (iN (s0_71)), .int (iN (i)), .ref (a 5)] := by
                intro s0_71 es0_71
                have hs71 : 0 ≤ s0_71 ∧ s0_71 ≤ 14 := by have b1 := WFm.po hM i; have b2 := WFm.po hM j; omega
                refine x_iastore C (f := (upz (upz mpo i x) j y)) 5 rfl (by omega) rfl (WM X.γ a mh mn mkd mfg mag (upz (upz (upz mpo i x) j y) i s0_71) mwy mdy mhw mkk mkf mrs mrm mrw 0 0 G mwa mre mpl mib msn mpn mlo mtl mke mim mhi mp0 mtk mki UN msd mbe) rfl dX12_two_71 ?_
                refine x_aload_n C 3 rfl rfl dX12_two_72 ?_
                refine x_get C in_X12_two_X12 0 rfl rfl 5 (by decide) (List.mem_of_getElem? (i := 2) rfl) rfl (v := .ref (a 5)) rfl dX12_two_73 ?_
                refine x_iload_n C 5 rfl rfl dX12_two_76 ?_
                refine x_iload C 0 rfl dX12_two_77 ?_
                refine x_iconst (v := 0) C dX12_two_79 ?_
                refine x_irem C (by omega) dX12_two_80 ?_
                refine x_iconst (v := 0) C dX12_two_81 ?_
                have LP91 : ∀ (s0_91 : Int), (s0_91 = (if (k : Int) % 2 = 1 then mpo i else mpo j)) → Wx X 0 0 (WM X.γ a mh mn mkd mfg mag (upz (upz (upz mpo i x) j y) i s0_71) mwy mdy mhw mkk mkf mrs mrm mrw 0 0 G mwa mre mpl mib msn mpn mlo mtl mke mim mhi mp0 mtk mki UN msd mbe) 91 [(5, .int (iN ((k : Int)))), (4, .int (iN (mpo j))), (3, .int (iN (mpo i))), (0, .ref (a 0)), (1, .int (iN (i))), (2, .int (iN (j)))] [.int (iN (s0_91)), .int (iN (j)), .ref (a 5)] := by
                  intro s0_91 es0_91
                  have hs91 : 0 ≤ s0_91 ∧ s0_91 ≤ 14 := by have b1 := WFm.po hM i; have b2 := WFm.po hM j; omega
                  refine x_iastore C (f := (upz (upz (upz mpo i x) j y) i s0_71)) 5 rfl (by omega) rfl (WM X.γ a mh mn mkd mfg mag (upz (upz (upz (upz mpo i x) j y) i s0_71) j s0_91) mwy mdy mhw mkk mkf mrs mrm mrw 0 0 G mwa mre mpl mib msn mpn mlo mtl mke mim mhi mp0 mtk mki UN msd mbe) rfl dX12_two_91 ?_
                  refine Wx.eqW (ws' := (WM X.γ a mh mn mkd mfg mag (upz (upz mpo i s0_71) j s0_91) mwy mdy mhw mkk mkf mrs mrm mrw 0 0 G mwa mre mpl mib msn mpn mlo mtl mke mim mhi mp0 mtk mki UN msd mbe)) (by rw [upz4 c_23]) ?_
                  refine x_aload_n C 3 rfl rfl dX12_two_92 ?_
                  refine x_get C in_X12_two_X12 0 rfl rfl 31 (by decide) (List.mem_of_getElem? (i := 3) rfl) rfl (v := .ref (a 20)) rfl dX12_two_93 ?_
                  refine x_iconst (v := 0) C dX12_two_96 ?_
                  refine x_iload C 0 rfl dX12_two_97 ?_
                  refine x_imul C dX12_two_99 ?_
                  refine x_aload_n C 3 rfl rfl dX12_two_100 ?_
                  refine x_aload_n C 3 rfl rfl dX12_two_101 ?_
                  refine x_get C in_X12_two_X12 0 rfl rfl 5 (by decide) (List.mem_of_getElem? (i := 2) rfl) rfl (v := .ref (a 5)) rfl dX12_two_102 ?_
                  refine x_iload_n C 4 rfl rfl dX12_two_105 ?_
                  refine x_iaload C (f := (upz (upz mpo i s0_71) j s0_91)) 5 rfl (by omega) rfl dX12_two_106 ?_
                  have b188 := (bd_upz (i := j) (bd_upz (i := i) (WFm.po hM) hs71) hs91) (i)
                  have ta : tpa (Lc mh mn mdy mkd mfg mag mpo mwy) i j (k : Int) = s0_71 := es0_71.symm
                  have tb : tpb (Lc mh mn mdy mkd mfg mag mpo mwy) i j (k : Int) = s0_91 := es0_91.symm
                  rw [show (upz (upz mpo i s0_71) j s0_91) i = s0_71 from by rw [upz_n c_23, upz_s]]
                  refine x_V_I C (As := [.int (iN (s0_71))]) (rest := [.int (iN (2 * (k : Int))), .ref (a 20)]) 1 0 rfl rfl gX12_two_X12_groundAt rfl (c_X12_groundAt _ _ a mh mn mkd mfg mag (upz (upz mpo i s0_71) j s0_91) mwy mdy mhw mkk mkf mrs mrm mrw 0 G mwa mre mpl mib msn mpn mlo mtl mke mim mhi mp0 mtk mki UN msd mbe (WFm.posn hM (bd_upz (i := j) (bd_upz (i := i) (WFm.po hM) hs71) hs91)) (s0_71) (by omega)) rfl ok_X12_groundAt rfl rfl rfl rfl dX12_two_107 (fun r w1 hp => ?_)
                  obtain ⟨rfl, rfl⟩ := hp
                  show Wx X 0 0 (WM X.γ a mh mn mkd mfg mag (upz (upz mpo i s0_71) j s0_91) mwy mdy mhw mkk mkf mrs mrm mrw 0 0 (Ct.g (Lc mh mn mdy mkd mfg mag (upz (upz mpo i s0_71) j s0_91) mwy)) mwa mre mpl mib msn mpn mlo mtl mke mim mhi mp0 mtk mki UN msd mbe) 110 [(5, .int (iN ((k : Int)))), (4, .int (iN (mpo j))), (3, .int (iN (mpo i))), (0, .ref (a 0)), (1, .int (iN (i))), (2, .int (iN (j)))] [.int (iN (Ct.g (Lc mh mn mdy mkd mfg mag (upz (upz mpo i s0_71) j s0_91) mwy) s0_71)), .int (iN (2 * (k : Int))), .ref (a 20)]
                  have b189 := WFc.g (WFm.L (WFm.posn hM (bd_upz (i := j) (bd_upz (i := i) (WFm.po hM) hs71) hs91)) mdy) s0_71
                  rw [show Ct.g (Lc mh mn mdy mkd mfg mag (upz (upz mpo i s0_71) j s0_91) mwy) s0_71 = twu (Lc mh mn mdy mkd mfg mag mpo mwy) i j (k : Int) from (by unfold twu twC; rw [ta, tb]; rfl)]
                  refine x_iastore C (f := UN) 20 rfl (by omega) rfl (WM X.γ a mh mn mkd mfg mag (upz (upz mpo i s0_71) j s0_91) mwy mdy mhw mkk mkf mrs mrm mrw 0 0 (Ct.g (Lc mh mn mdy mkd mfg mag (upz (upz mpo i s0_71) j s0_91) mwy)) mwa mre mpl mib msn mpn mlo mtl mke mim mhi mp0 mtk mki (upz UN (2 * (k : Int)) (twu (Lc mh mn mdy mkd mfg mag mpo mwy) i j (k : Int))) msd mbe) rfl dX12_two_110 ?_
                  refine x_aload_n C 3 rfl rfl dX12_two_111 ?_
                  refine x_get C in_X12_two_X12 0 rfl rfl 31 (by decide) (List.mem_of_getElem? (i := 3) rfl) rfl (v := .ref (a 20)) rfl dX12_two_112 ?_
                  refine x_iconst (v := 0) C dX12_two_115 ?_
                  refine x_iload C 0 rfl dX12_two_116 ?_
                  refine x_imul C dX12_two_118 ?_
                  refine x_iconst (v := 0) C dX12_two_119 ?_
                  refine x_iadd C dX12_two_120 ?_
                  refine x_aload_n C 3 rfl rfl dX12_two_121 ?_
                  refine x_aload_n C 3 rfl rfl dX12_two_122 ?_
                  refine x_get C in_X12_two_X12 0 rfl rfl 5 (by decide) (List.mem_of_getElem? (i := 2) rfl) rfl (v := .ref (a 5)) rfl dX12_two_123 ?_
                  refine x_iload_n C 5 rfl rfl dX12_two_126 ?_
                  refine x_iaload C (f := (upz (upz mpo i s0_71) j s0_91)) 5 rfl (by omega) rfl dX12_two_127 ?_
                  rw [upz_s]
                  refine x_V_I C (As := [.int (iN (s0_91))]) (rest := [.int (iN ((2 * (k : Int)) + 1)), .ref (a 20)]) 1 0 rfl rfl gX12_two_X12_groundAt rfl (c_X12_groundAt _ _ a mh mn mkd mfg mag (upz (upz mpo i s0_71) j s0_91) mwy mdy mhw mkk mkf mrs mrm mrw 0 (Ct.g (Lc mh mn mdy mkd mfg mag (upz (upz mpo i s0_71) j s0_91) mwy)) mwa mre mpl mib msn mpn mlo mtl mke mim mhi mp0 mtk mki (upz UN (2 * (k : Int)) (twu (Lc mh mn mdy mkd mfg mag mpo mwy) i j (k : Int))) msd mbe (WFm.posn hM (bd_upz (i := j) (bd_upz (i := i) (WFm.po hM) hs71) hs91)) (s0_91) (by omega)) rfl ok_X12_groundAt rfl rfl rfl rfl dX12_two_128 (fun r w1 hp => ?_)
                  obtain ⟨rfl, rfl⟩ := hp
                  show Wx X 0 0 (WM X.γ a mh mn mkd mfg mag (upz (upz mpo i s0_71) j s0_91) mwy mdy mhw mkk mkf mrs mrm mrw 0 0 (Ct.g (Lc mh mn mdy mkd mfg mag (upz (upz mpo i s0_71) j s0_91) mwy)) mwa mre mpl mib msn mpn mlo mtl mke mim mhi mp0 mtk mki (upz UN (2 * (k : Int)) (twu (Lc mh mn mdy mkd mfg mag mpo mwy) i j (k : Int))) msd mbe) 131 [(5, .int (iN ((k : Int)))), (4, .int (iN (mpo j))), (3, .int (iN (mpo i))), (0, .ref (a 0)), (1, .int (iN (i))), (2, .int (iN (j)))] [.int (iN (Ct.g (Lc mh mn mdy mkd mfg mag (upz (upz mpo i s0_71) j s0_91) mwy) s0_91)), .int (iN ((2 * (k : Int)) + 1)), .ref (a 20)]
                  have b190 := WFc.g (WFm.L (WFm.posn hM (bd_upz (i := j) (bd_upz (i := i) (WFm.po hM) hs71) hs91)) mdy) s0_91
                  rw [show Ct.g (Lc mh mn mdy mkd mfg mag (upz (upz mpo i s0_71) j s0_91) mwy) s0_91 = twv (Lc mh mn mdy mkd mfg mag mpo mwy) i j (k : Int) from (by unfold twv twC; rw [ta, tb]; rfl)]
                  refine x_iastore C (f := (upz UN (2 * (k : Int)) (twu (Lc mh mn mdy mkd mfg mag mpo mwy) i j (k : Int)))) 20 rfl (by omega) rfl (WM X.γ a mh mn mkd mfg mag (upz (upz mpo i s0_71) j s0_91) mwy mdy mhw mkk mkf mrs mrm mrw 0 0 (Ct.g (Lc mh mn mdy mkd mfg mag (upz (upz mpo i s0_71) j s0_91) mwy)) mwa mre mpl mib msn mpn mlo mtl mke mim mhi mp0 mtk mki (upz (upz UN (2 * (k : Int)) (twu (Lc mh mn mdy mkd mfg mag mpo mwy) i j (k : Int))) ((2 * (k : Int)) + 1) (twv (Lc mh mn mdy mkd mfg mag mpo mwy) i j (k : Int))) msd mbe) rfl dX12_two_131 ?_
                  refine x_iinc C 0 [(5, .int (iN ((k : Int) + 1))), (4, .int (iN (mpo j))), (3, .int (iN (mpo i))), (0, .ref (a 0)), (1, .int (iN (i))), (2, .int (iN (j)))] rfl rfl (by decide) rfl dX12_two_132 ?_
                  refine x_goto C 46 (by decide) dX12_two_135 ?_
                  exact ih46 (k + 1) (s0_71) (s0_91) (upz (upz UN (2 * (k : Int)) (twu (Lc mh mn mdy mkd mfg mag mpo mwy) i j (k : Int))) ((2 * (k : Int)) + 1) (twv (Lc mh mn mdy mkd mfg mag mpo mwy) i j (k : Int))) (Ct.g (Lc mh mn mdy mkd mfg mag (upz (upz mpo i s0_71) j s0_91) mwy)) _ (by omega) (by omega) (fun t h1 h2 => if q : t = (k : Int) then (by subst q; exact ⟨by rw [upz_n (by omega), upz_s], by rw [upz_s]⟩) else (by have h := hU t h1 (by omega); rw [upz_n (by omega), upz_n (by omega), upz_n (by omega), upz_n (by omega)]; exact h)) (by omega)
                refine x_icmp_ne C 89 (by decide) (by omega) dX12_two_82 (fun c_82 => ?_) (fun c_82 => ?_)
                · refine x_iload C 1 rfl dX12_two_89 ?_
                  exact LP91 _ (by omega)
                · refine x_iload_n C 2 rfl rfl dX12_two_85 ?_
                  refine x_goto C 91 (by decide) dX12_two_86 ?_
                  exact LP91 _ (by omega)
              refine x_icmp_ne C 70 (by decide) (by omega) dX12_two_62 (fun c_62 => ?_) (fun c_62 => ?_)
              · refine x_iload_n C 2 rfl rfl dX12_two_70 ?_
                exact LP71 _ (by omega)
              · refine x_iload C 1 rfl dX12_two_65 ?_
                refine x_goto C 71 (by decide) dX12_two_67 ?_
                exact LP71 _ (by omega)
        refine Wx.eqW (ws' := (WM X.γ a mh mn mkd mfg mag (upz (upz mpo i (mpo i)) j (mpo j)) mwy mdy mhw mkk mkf mrs mrm mrw 0 0 mgr mwa mre mpl mib msn mpn mlo mtl mke mim mhi mp0 mtk mki mun msd mbe)) (by rw [upz_id, upz_id]) ?_
        exact LP46 ((4 - (0)) + 1) (0) (mpo i) (mpo j) (mun) (mgr) _ (by omega) (by omega) (fun t h1 h2 => by omega) (by omega)
      · refine x_iconst (v := 0) C dX12_two_26 ?_
        exact hret _ _ _ _ dX12_two_27 rfl ⟨(by unfold q_two; rw [if_neg (show ¬ (q_one (Lc mh mn mdy mkd mfg mag mpo mwy) i ∧ q_one (Lc mh mn mdy mkd mfg mag mpo mwy) j ∧ i ≠ j) from (show ¬ ((0 ≤ i ∧ i ≤ mn - 1) ∧ (0 ≤ j ∧ j ≤ mn - 1) ∧ i ≠ j) by omega))]), Wk.mk⟩
end HTWO
