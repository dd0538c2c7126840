section HHIR
theorem c_X12_payOf_q (l : Launch) (γ : GX) (a : Nat → Nat) (mh : Int → Int) (mn : Int) (mkd : Int → Int) (mfg : Int → Int) (mag : Int → Int) (mpo : Int → Int) (mwy : Int → Int) (mdy : Int) (mhw : Int → Int) (mkk : Int → Int) (mkf : Int → Int) (mrs : Int → Int) (mrm : Int → Int) (mrw : Int → Int) (mth : Int) (maw : Int) (mgr : Int → Int) (mwa : Int → Int) (mre : Int) (mpl : Int) (mib : Int) (msn : Int) (mpn : Int → Int) (mlo : Int → Int) (mtl : Int → Int) (mke : Int → Int) (mim : Int → Int) (mhi : Int) (mp0 : Int) (mtk : Int) (mki : Value) (mun : Int → Int) (msd : Int) (mbe : Int → Int) (hM : WFm mn mh mkd mfg mag mpo mwy mhw mkk mkf mrs mrm mrw) (bits : Int) (h0_ : 0 ≤ bits ∧ bits < 2147483648) : MI l γ yX12_payOf wsX12_payOf rmX12_payOf [.ref (a 0), .int (iN (bits))] (WM γ a mh mn mkd mfg mag mpo mwy mdy mhw mkk mkf mrs mrm mrw mth maw mgr mwa mre mpl mib msn mpn mlo mtl mke mim mhi mp0 mtk mki mun msd mbe) (fun r_ w_ => r_ = q_pay (Lc mh mn mdy mkd mfg mag mpo mwy) bits ∧ w_ = (WM γ a mh mn mkd mfg mag mpo mwy mdy mhw mkk mkf mrs mrm mrw mth maw mgr mwa mre mpl mib msn mpn mlo mtl mke mim mhi mp0 mtk mki mun msd mbe)) 0 0 :=
  c_X12_payOf l γ a mh mn mkd mfg mag mpo mwy mdy mhw mkk mkf mrs mrm mrw mth maw mgr mwa mre mpl mib msn mpn mlo mtl mke mim mhi mp0 mtk mki mun msd mbe hM bits h0_
theorem in_X12_hire_X12 : ∀ w ∈ u_ws RX12 TX12 34, w ∈ wsX12_hire := by decide +kernel
theorem ok_X12_hire : okY yX12_hire 3 := by decide +kernel
def rmX12_hire : Room := { frames := 6, cells := 0, slots := 0, locals := 139 }
set_option maxRecDepth 100000 in
set_option maxHeartbeats 400000 in
theorem c_X12_hire (l : Launch) (γ : GX) (a : Nat → Nat) (mh : Int → Int) (mn : Int) (mkd : Int → Int) (mfg : Int → Int) (mag : Int → Int) (mpo : Int → Int) (mwy : Int → Int) (mdy : Int) (mhw : Int → Int) (mkk : Int → Int) (mkf : Int → Int) (mrs : Int → Int) (mrm : Int → Int) (mrw : Int → Int) (mth : Int) (mgr : Int → Int) (mwa : Int → Int) (mre : Int) (mpl : Int) (mib : Int) (msn : Int) (mpn : Int → Int) (mlo : Int → Int) (mtl : Int → Int) (mke : Int → Int) (mim : Int → Int) (mhi : Int) (mp0 : Int) (mtk : Int) (mki : Value) (mun : Int → Int) (msd : Int) (mbe : Int → Int) (hM : WFm mn mh mkd mfg mag mpo mwy mhw mkk mkf mrs mrm mrw) (i : Int) (c : Int) (w : Int) (h0_ : -2147483648 ≤ i ∧ i < 2147483648) (h1_ : -2147483648 ≤ c ∧ c < 2147483648) (h2_ : -2147483648 ≤ w ∧ w < 2147483648) : MI l γ yX12_hire wsX12_hire rmX12_hire [.ref (a 0), .int (iN (i)), .int (iN (c)), .int (iN (w))] (WM γ a mh mn mkd mfg mag mpo mwy mdy mhw mkk mkf mrs mrm mrw mth 0 mgr mwa mre mpl mib msn mpn mlo mtl mke mim mhi mp0 mtk mki mun msd mbe) (fun r_ w_ => r_ = q_hire (Lc mh mn mdy mkd mfg mag mpo mwy) i c w ∧ Wk γ a mh mn mkd mfg mag mpo mwy mdy mhw mkk mkf mrs mrm mrw 0 mim mhi w_) 0 0 := by
  refine MI.of (cc := cX12_hire) (maxL := 7) (rt := .int) RX12 rfl (by decide +kernel) rfl (Nat.le_of_ble_eq_true rfl) ?_
  intro X C hγ hl hnm hret
  subst hγ
  have hMn := WFm.n hM
  have bpw := pw_b hMn
  show Wx X 0 0 (WM X.γ a mh mn mkd mfg mag mpo mwy mdy mhw mkk mkf mrs mrm mrw mth 0 mgr mwa mre mpl mib msn mpn mlo mtl mke mim mhi mp0 mtk mki mun msd mbe) 0 [(0, .ref (a 0)), (1, .int (iN (i))), (2, .int (iN (c))), (3, .int (iN (w)))] []
  refine x_aload_n C 0 rfl rfl dX12_hire_0 ?_
  refine x_iconst (v := 0) C dX12_hire_1 ?_
  refine x_put C in_X12_hire_X12 tyX12 tyX12_ok nmX12 0 rfl rfl 14 (by decide) (List.mem_of_getElem? (i := 1) rfl) rfl rfl rfl rfl rfl (Nat.le_of_ble_eq_true rfl) (WM X.γ a mh mn mkd mfg mag mpo mwy mdy mhw mkk mkf mrs mrm mrw 0 0 mgr mwa mre mpl mib msn mpn mlo mtl mke mim mhi mp0 mtk mki mun msd mbe) rfl dX12_hire_2 ?_
  refine x_aload_n C 0 rfl rfl dX12_hire_5 ?_
  refine x_iload_n C 1 rfl rfl dX12_hire_6 ?_
  refine x_V_I C (As := [.int (iN (i))]) (rest := []) 1 0 rfl rfl gX12_hire_X12_isOne rfl (c_X12_isOne _ _ a mh mn mkd mfg mag mpo mwy mdy mhw mkk mkf mrs mrm mrw 0 0 mgr mwa mre mpl mib msn mpn mlo mtl mke mim mhi mp0 mtk mki mun msd mbe hM (i) (by omega)) rfl ok_X12_isOne rfl rfl rfl rfl dX12_hire_7 (fun r w1 hp => ?_)
  obtain ⟨rfl, rfl⟩ := hp
  refine x_ifeq_bz C 30 (by decide) dX12_hire_10 (fun c_10 => ?_) (fun c_10 => ?_)
  · refine x_iconst (v := 0) C dX12_hire_30 ?_
    exact hret _ _ _ _ dX12_hire_31 rfl ⟨(by unfold q_hire; rw [if_neg (show ¬ (q_one (Lc mh mn mdy mkd mfg mag mpo mwy) i ∧ q_cell c ∧ 0 ≤ w ∧ w ≤ 1) from (show ¬ ((0 ≤ i ∧ i ≤ mn - 1) ∧ (0 ≤ c ∧ c ≤ 14) ∧ 0 ≤ w ∧ w ≤ 1) by omega))]), Wk.mk⟩
  · refine x_iload_n C 2 rfl rfl dX12_hire_13 ?_
    refine x_S_I C (As := [.int (iN (c))]) (rest := []) 1 gX12_hire_X12_isCell (c_X12_isCell _ _ (WM X.γ a mh mn mkd mfg mag mpo mwy mdy mhw mkk mkf mrs mrm mrw 0 0 mgr mwa mre mpl mib msn mpn mlo mtl mke mim mhi mp0 mtk mki mun msd mbe) (c) (by omega)) rfl ok_X12_isCell rfl rfl rfl rfl dX12_hire_14 (fun r w1 hp => ?_)
    obtain ⟨rfl, rfl⟩ := hp
    refine x_ifeq_bz C 30 (by decide) dX12_hire_17 (fun c_17 => ?_) (fun c_17 => ?_)
    · refine x_iconst (v := 0) C dX12_hire_30 ?_
      exact hret _ _ _ _ dX12_hire_31 rfl ⟨(by unfold q_hire; rw [if_neg (show ¬ (q_one (Lc mh mn mdy mkd mfg mag mpo mwy) i ∧ q_cell c ∧ 0 ≤ w ∧ w ≤ 1) from (show ¬ ((0 ≤ i ∧ i ≤ mn - 1) ∧ (0 ≤ c ∧ c ≤ 14) ∧ 0 ≤ w ∧ w ≤ 1) by omega))]), Wk.mk⟩
    · refine x_iload_n C 3 rfl rfl dX12_hire_20 ?_
      refine x_i2l C (by omega) dX12_hire_21 ?_
      refine x_lconst C 0 rfl dX12_hire_22 ?_
      refine x_lconst C 1 rfl dX12_hire_23 ?_
      refine x_S_I C (As := [.long (jN (w)), .long (jN (0)), .long (jN (1))]) (rest := []) 3 gX12_hire_X12_in (c_X12_in _ _ (WM X.γ a mh mn mkd mfg mag mpo mwy mdy mhw mkk mkf mrs mrm mrw 0 0 mgr mwa mre mpl mib msn mpn mlo mtl mke mim mhi mp0 mtk mki mun msd mbe) (w) (0) (1) (by omega) (by omega) (by omega)) rfl ok_X12_in rfl rfl rfl rfl dX12_hire_24 (fun r w1 hp => ?_)
      obtain ⟨rfl, rfl⟩ := hp
      refine x_ifne_bz C 32 (by decide) dX12_hire_27 (fun c_27 => ?_) (fun c_27 => ?_)
      · refine x_bipush C (-4) (by decide) dX12_hire_32 ?_
        refine x_istore C [(4, .int (iN (-4))), (0, .ref (a 0)), (1, .int (iN (i))), (2, .int (iN (c))), (3, .int (iN (w)))] (by decide) rfl dX12_hire_34 ?_
        refine x_iconst (v := 0) C dX12_hire_36 ?_
        refine x_istore C [(5, .int (iN (0))), (4, .int (iN (-4))), (0, .ref (a 0)), (1, .int (iN (i))), (2, .int (iN (c))), (3, .int (iN (w)))] (by decide) rfl dX12_hire_37 ?_
        have LP39 : ∀ (f : Nat) (k : Nat) (G : Int → Int) (KE : Int → Int) (P0 : Int) (TK : Int) (KY : Value) (v5_39 : Int) (v4_39 : Int), (pw mn - k < f) → (k ≤ pw mn) → (((k : Int)) = v5_39) → (v4_39 = (hrz (Lc mh mn mdy mkd mfg mag mpo mwy) i c k)) → Wx X 0 0 (WM X.γ a mh mn mkd mfg mag mpo mwy mdy mhw mkk mkf mrs mrm mrw 0 0 G mwa mre mpl mib msn mpn mlo mtl KE mim mhi P0 TK KY mun msd mbe) 39 [(5, .int (iN (v5_39))), (4, .int (iN (v4_39))), (0, .ref (a 0)), (1, .int (iN (i))), (2, .int (iN (c))), (3, .int (iN (w)))] [] := by
          intro f
          induction f with
          | zero => intro k G KE P0 TK KY v5_39 v4_39 hf; exact absurd hf (Nat.not_lt_zero _)
          | succ f ih39 =>
            intro k G KE P0 TK KY v5_39 v4_39 hf hk e5_39 e4_39
            subst e5_39
            have bc := hrz_b (Lc mh mn mdy mkd mfg mag mpo mwy) i c k
            refine x_iload C 0 rfl dX12_hire_39 ?_
            refine x_iconst (v := 0) C dX12_hire_41 ?_
            refine x_aload_n C 2 rfl rfl dX12_hire_42 ?_
            refine x_get C in_X12_hire_X12 0 rfl rfl 1 (by decide) (List.mem_of_getElem? (i := 2) rfl) rfl (v := .int (iN (mn))) rfl dX12_hire_43 ?_
            refine x_ishl C ((pw mn : Nat) : Int) (iN_shlp hMn) dX12_hire_46 ?_
            refine x_icmp_ge C 117 (by decide) (by omega) dX12_hire_47 (fun c_47 => ?_) (fun c_47 => ?_)
            · refine x_iload_n C 5 rfl rfl dX12_hire_117 ?_
              refine x_if_eq C 126 (by decide) (by omega) dX12_hire_118 (fun c_118 => ?_) (fun c_118 => ?_)
              · refine x_iload C 1 rfl dX12_hire_126 ?_
                refine x_goto C 137 (by decide) dX12_hire_128 ?_
                exact hret _ _ _ _ dX12_hire_137 rfl ⟨(by have hz : k = pw mn := (by omega); subst hz; unfold q_hire; rw [if_pos (show q_one (Lc mh mn mdy mkd mfg mag mpo mwy) i ∧ q_cell c ∧ 0 ≤ w ∧ w ≤ 1 from (show (0 ≤ i ∧ i ≤ mn - 1) ∧ (0 ≤ c ∧ c ≤ 14) ∧ 0 ≤ w ∧ w ≤ 1 by omega))]; show _ = (if w = 0 ∨ hrz (Lc mh mn mdy mkd mfg mag mpo mwy) i c (pw mn) < 0 then hrz (Lc mh mn mdy mkd mfg mag mpo mwy) i c (pw mn) else q_pay (Lc mh mn mdy mkd mfg mag mpo mwy) (hrz (Lc mh mn mdy mkd mfg mag mpo mwy) i c (pw mn))); rw [← e4_39, if_pos (show w = 0 ∨ v4_39 < 0 by omega)]), Wk.mk⟩
              · refine x_iload C 1 rfl dX12_hire_121 ?_
                refine x_if_ge C 131 (by decide) (by omega) dX12_hire_123 (fun c_123 => ?_) (fun c_123 => ?_)
                · refine x_aload_n C 2 rfl rfl dX12_hire_131 ?_
                  refine x_iload C 1 rfl dX12_hire_132 ?_
                  refine x_V_I C (As := [.int (iN (v4_39))]) (rest := []) 1 0 rfl rfl gX12_hire_X12_payOf rfl (c_X12_payOf_q _ _ a mh mn mkd mfg mag mpo mwy mdy mhw mkk mkf mrs mrm mrw 0 0 G mwa mre mpl mib msn mpn mlo mtl KE mim mhi P0 TK KY mun msd mbe hM (v4_39) (by omega)) rfl ok_X12_payOf rfl rfl rfl rfl dX12_hire_134 (fun r w1 hp => ?_)
                  obtain ⟨rfl, rfl⟩ := hp
                  show Wx X 0 0 (WM X.γ a mh mn mkd mfg mag mpo mwy mdy mhw mkk mkf mrs mrm mrw 0 0 G mwa mre mpl mib msn mpn mlo mtl KE mim mhi P0 TK KY mun msd mbe) 137 [(5, .int (iN ((k : Int)))), (4, .int (iN (v4_39))), (0, .ref (a 0)), (1, .int (iN (i))), (2, .int (iN (c))), (3, .int (iN (w)))] [.int (iN (q_pay (Lc mh mn mdy mkd mfg mag mpo mwy) v4_39))]
                  have b116 := q_pay_b (WFm.L hM mdy) v4_39
                  exact hret _ _ _ _ dX12_hire_137 rfl ⟨(by have hz : k = pw mn := (by omega); subst hz; unfold q_hire; rw [if_pos (show q_one (Lc mh mn mdy mkd mfg mag mpo mwy) i ∧ q_cell c ∧ 0 ≤ w ∧ w ≤ 1 from (show (0 ≤ i ∧ i ≤ mn - 1) ∧ (0 ≤ c ∧ c ≤ 14) ∧ 0 ≤ w ∧ w ≤ 1 by omega))]; show _ = (if w = 0 ∨ hrz (Lc mh mn mdy mkd mfg mag mpo mwy) i c (pw mn) < 0 then hrz (Lc mh mn mdy mkd mfg mag mpo mwy) i c (pw mn) else q_pay (Lc mh mn mdy mkd mfg mag mpo mwy) (hrz (Lc mh mn mdy mkd mfg mag mpo mwy) i c (pw mn))); rw [← e4_39, if_neg (show ¬ (w = 0 ∨ v4_39 < 0) by omega)]), Wk.mk⟩
                · refine x_iload C 1 rfl dX12_hire_126 ?_
                  refine x_goto C 137 (by decide) dX12_hire_128 ?_
                  exact hret _ _ _ _ dX12_hire_137 rfl ⟨(by have hz : k = pw mn := (by omega); subst hz; unfold q_hire; rw [if_pos (show q_one (Lc mh mn mdy mkd mfg mag mpo mwy) i ∧ q_cell c ∧ 0 ≤ w ∧ w ≤ 1 from (show (0 ≤ i ∧ i ≤ mn - 1) ∧ (0 ≤ c ∧ c ≤ 14) ∧ 0 ≤ w ∧ w ≤ 1 by omega))]; show _ = (if w = 0 ∨ hrz (Lc mh mn mdy mkd mfg mag mpo mwy) i c (pw mn) < 0 then hrz (Lc mh mn mdy mkd mfg mag mpo mwy) i c (pw mn) else q_pay (Lc mh mn mdy mkd mfg mag mpo mwy) (hrz (Lc mh mn mdy mkd mfg mag mpo mwy) i c (pw mn))); rw [← e4_39, if_pos (show w = 0 ∨ v4_39 < 0 by omega)]), Wk.mk⟩
            · refine x_iload C 1 rfl dX12_hire_50 ?_
              have LP75 : ∀ (s0_75 : Int), (s0_75 = (if v4_39 < 0 ∨ q_pay (Lc mh mn mdy mkd mfg mag mpo mwy) (k : Int) < q_pay (Lc mh mn mdy mkd mfg mag mpo mwy) v4_39 then 1 else 0)) → Wx X 0 0 (WM X.γ a mh mn mkd mfg mag mpo mwy mdy mhw mkk mkf mrs mrm mrw 0 0 G mwa mre mpl mib msn mpn mlo mtl KE mim mhi P0 TK KY mun msd mbe) 75 [(5, .int (iN ((k : Int)))), (4, .int (iN (v4_39))), (0, .ref (a 0)), (1, .int (iN (i))), (2, .int (iN (c))), (3, .int (iN (w)))] [.int (iN (s0_75))] := by
                intro s0_75 es0_75
                refine x_istore C [(6, .int (iN (s0_75))), (5, .int (iN ((k : Int)))), (4, .int (iN (v4_39))), (0, .ref (a 0)), (1, .int (iN (i))), (2, .int (iN (c))), (3, .int (iN (w)))] (by decide) rfl dX12_hire_75 ?_
                refine x_iload C 0 rfl dX12_hire_77 ?_
                refine x_if_eq C 107 (by decide) (by omega) dX12_hire_79 (fun c_79 => ?_) (fun c_79 => ?_)
                · refine x_iload C 2 rfl dX12_hire_107 ?_
                  refine x_istore C [(4, .int (iN (v4_39))), (6, .int (iN (s0_75))), (5, .int (iN ((k : Int)))), (0, .ref (a 0)), (1, .int (iN (i))), (2, .int (iN (c))), (3, .int (iN (w)))] (by decide) rfl dX12_hire_109 ?_
                  refine x_iinc C 2 [(5, .int (iN ((k : Int) + 1))), (4, .int (iN (v4_39))), (6, .int (iN (s0_75))), (0, .ref (a 0)), (1, .int (iN (i))), (2, .int (iN (c))), (3, .int (iN (w)))] rfl rfl (by decide) rfl dX12_hire_111 ?_
                  refine x_goto C 39 (by decide) dX12_hire_114 ?_
                  refine Wx.subL [0, 1, 3, 4, 5, 6] rfl ?_
                  exact ih39 (k + 1) (G) (KE) (P0) (TK) (KY) _ _ (by omega) (by omega) (by omega) (by simp only [hrz]; rw [← e4_39, if_neg (fun z => absurd z.1 (by omega))])
                · refine x_iload C 1 rfl dX12_hire_82 ?_
                  refine x_iload_n C 4 rfl rfl dX12_hire_84 ?_
                  refine x_S_I C (As := [.int (iN ((k : Int))), .int (iN (i))]) (rest := []) 2 gX12_hire_X12_hasBit (c_X12_hasBit _ _ (WM X.γ a mh mn mkd mfg mag mpo mwy mdy mhw mkk mkf mrs mrm mrw 0 0 G mwa mre mpl mib msn mpn mlo mtl KE mim mhi P0 TK KY mun msd mbe) ((k : Int)) (i) (by omega) (by omega)) rfl ok_X12_hasBit rfl rfl rfl rfl dX12_hire_85 (fun r w1 hp => ?_)
                  obtain ⟨rfl, rfl⟩ := hp
                  refine x_ifne_bz C 107 (by decide) dX12_hire_88 (fun c_88 => ?_) (fun c_88 => ?_)
                  · refine x_iload C 2 rfl dX12_hire_107 ?_
                    refine x_istore C [(4, .int (iN (v4_39))), (6, .int (iN (s0_75))), (5, .int (iN ((k : Int)))), (0, .ref (a 0)), (1, .int (iN (i))), (2, .int (iN (c))), (3, .int (iN (w)))] (by decide) rfl dX12_hire_109 ?_
                    refine x_iinc C 2 [(5, .int (iN ((k : Int) + 1))), (4, .int (iN (v4_39))), (6, .int (iN (s0_75))), (0, .ref (a 0)), (1, .int (iN (i))), (2, .int (iN (c))), (3, .int (iN (w)))] rfl rfl (by decide) rfl dX12_hire_111 ?_
                    refine x_goto C 39 (by decide) dX12_hire_114 ?_
                    refine Wx.subL [0, 1, 3, 4, 5, 6] rfl ?_
                    exact ih39 (k + 1) (G) (KE) (P0) (TK) (KY) _ _ (by omega) (by omega) (by omega) (by simp only [hrz]; rw [← e4_39, if_neg (fun z => z.2.1 c_88)])
                  · refine x_aload_n C 3 rfl rfl dX12_hire_91 ?_
                    refine x_iload_n C 4 rfl rfl dX12_hire_92 ?_
                    refine x_iload C 1 rfl dX12_hire_93 ?_
                    refine x_iload_n C 5 rfl rfl dX12_hire_95 ?_
                    refine x_V_I C (As := [.int (iN (i)), .int (iN ((k : Int))), .int (iN (c))]) (rest := []) 3 0 rfl rfl gX12_hire_X12_getsTo rfl (c_X12_getsTo _ _ a mh mn mkd mfg mag mpo mwy mdy mhw mkk mkf mrs mrm mrw 0 G mwa mre mpl mib msn mpn mlo mtl KE mim mhi P0 TK KY mun msd mbe hM (i) ((k : Int)) (c) (by omega) (by omega) (by omega)) rfl ok_X12_getsTo rfl rfl rfl rfl dX12_hire_96 (fun r w1 hp => ?_)
                    obtain ⟨Gb117, rfl, rfl⟩ := hp
                    refine x_ifeq_bz C 107 (by decide) dX12_hire_99 (fun c_99 => ?_) (fun c_99 => ?_)
                    · refine x_iload C 2 rfl dX12_hire_107 ?_
                      refine x_istore C [(4, .int (iN (v4_39))), (6, .int (iN (s0_75))), (5, .int (iN ((k : Int)))), (0, .ref (a 0)), (1, .int (iN (i))), (2, .int (iN (c))), (3, .int (iN (w)))] (by decide) rfl dX12_hire_109 ?_
                      refine x_iinc C 2 [(5, .int (iN ((k : Int) + 1))), (4, .int (iN (v4_39))), (6, .int (iN (s0_75))), (0, .ref (a 0)), (1, .int (iN (i))), (2, .int (iN (c))), (3, .int (iN (w)))] rfl rfl (by decide) rfl dX12_hire_111 ?_
                      refine x_goto C 39 (by decide) dX12_hire_114 ?_
                      refine Wx.subL [0, 1, 3, 4, 5, 6] rfl ?_
                      exact ih39 (k + 1) (Gb117) (pck mh mn mdy mkd mfg mag mpo mwy) (47) (0) ((.ref (a 18))) _ _ (by omega) (by omega) (by omega) (by simp only [hrz]; rw [← e4_39, if_neg (fun z => c_99 z.2.2)])
                    · refine x_iload C 1 rfl dX12_hire_102 ?_
                      refine x_goto C 109 (by decide) dX12_hire_104 ?_
                      refine x_istore C [(4, .int (iN ((k : Int)))), (6, .int (iN (s0_75))), (5, .int (iN ((k : Int)))), (0, .ref (a 0)), (1, .int (iN (i))), (2, .int (iN (c))), (3, .int (iN (w)))] (by decide) rfl dX12_hire_109 ?_
                      refine x_iinc C 2 [(5, .int (iN ((k : Int) + 1))), (4, .int (iN ((k : Int)))), (6, .int (iN (s0_75))), (0, .ref (a 0)), (1, .int (iN (i))), (2, .int (iN (c))), (3, .int (iN (w)))] rfl rfl (by decide) rfl dX12_hire_111 ?_
                      refine x_goto C 39 (by decide) dX12_hire_114 ?_
                      refine Wx.subL [0, 1, 3, 4, 5, 6] rfl ?_
                      exact ih39 (k + 1) (Gb117) (pck mh mn mdy mkd mfg mag mpo mwy) (47) (0) ((.ref (a 18))) _ _ (by omega) (by omega) (by omega) (by simp only [hrz]; rw [← e4_39, if_pos ⟨(by omega), c_88, c_99⟩])
              refine x_if_lt C 70 (by decide) (by omega) dX12_hire_52 (fun c_52 => ?_) (fun c_52 => ?_)
              · refine x_iconst (v := 0) C dX12_hire_70 ?_
                refine x_goto C 75 (by decide) dX12_hire_71 ?_
                exact LP75 _ (by omega)
              · refine x_aload_n C 2 rfl rfl dX12_hire_55 ?_
                refine x_iload C 0 rfl dX12_hire_56 ?_
                refine x_V_I C (As := [.int (iN ((k : Int)))]) (rest := []) 1 0 rfl rfl gX12_hire_X12_payOf rfl (c_X12_payOf_q _ _ a mh mn mkd mfg mag mpo mwy mdy mhw mkk mkf mrs mrm mrw 0 0 G mwa mre mpl mib msn mpn mlo mtl KE mim mhi P0 TK KY mun msd mbe hM ((k : Int)) (by omega)) rfl ok_X12_payOf rfl rfl rfl rfl dX12_hire_58 (fun r w1 hp => ?_)
                obtain ⟨rfl, rfl⟩ := hp
                show Wx X 0 0 (WM X.γ a mh mn mkd mfg mag mpo mwy mdy mhw mkk mkf mrs mrm mrw 0 0 G mwa mre mpl mib msn mpn mlo mtl KE mim mhi P0 TK KY mun msd mbe) 61 [(5, .int (iN ((k : Int)))), (4, .int (iN (v4_39))), (0, .ref (a 0)), (1, .int (iN (i))), (2, .int (iN (c))), (3, .int (iN (w)))] [.int (iN (q_pay (Lc mh mn mdy mkd mfg mag mpo mwy) ((k : Int))))]
                have b118 := q_pay_b (WFm.L hM mdy) ((k : Int))
                refine x_aload_n C 2 rfl rfl dX12_hire_61 ?_
                refine x_iload C 1 rfl dX12_hire_62 ?_
                refine x_V_I C (As := [.int (iN (v4_39))]) (rest := [.int (iN (q_pay (Lc mh mn mdy mkd mfg mag mpo mwy) ((k : Int))))]) 1 0 rfl rfl gX12_hire_X12_payOf rfl (c_X12_payOf_q _ _ a mh mn mkd mfg mag mpo mwy mdy mhw mkk mkf mrs mrm mrw 0 0 G mwa mre mpl mib msn mpn mlo mtl KE mim mhi P0 TK KY mun msd mbe hM (v4_39) (by omega)) rfl ok_X12_payOf rfl rfl rfl rfl dX12_hire_64 (fun r w1 hp => ?_)
                obtain ⟨rfl, rfl⟩ := hp
                show Wx X 0 0 (WM X.γ a mh mn mkd mfg mag mpo mwy mdy mhw mkk mkf mrs mrm mrw 0 0 G mwa mre mpl mib msn mpn mlo mtl KE mim mhi P0 TK KY mun msd mbe) 67 [(5, .int (iN ((k : Int)))), (4, .int (iN (v4_39))), (0, .ref (a 0)), (1, .int (iN (i))), (2, .int (iN (c))), (3, .int (iN (w)))] [.int (iN (q_pay (Lc mh mn mdy mkd mfg mag mpo mwy) v4_39)), .int (iN (q_pay (Lc mh mn mdy mkd mfg mag mpo mwy) ((k : Int))))]
                have b119 := q_pay_b (WFm.L hM mdy) v4_39
                refine x_icmp_ge C 74 (by decide) (by omega) dX12_hire_67 (fun c_67 => ?_) (fun c_67 => ?_)
                · refine x_iconst (v := 0) C dX12_hire_74 ?_
                  exact LP75 _ (by omega)
                · refine x_iconst (v := 0) C dX12_hire_70 ?_
                  refine x_goto C 75 (by decide) dX12_hire_71 ?_
                  exact LP75 _ (by omega)
        exact LP39 ((pw mn - (0)) + 1) (0) (mgr) (mke) (mp0) (mtk) (mki) _ _ (by omega) (by omega) (by omega) (rfl)
      · refine x_iconst (v := 0) C dX12_hire_30 ?_
        exact hret _ _ _ _ dX12_hire_31 rfl ⟨(by unfold q_hire; rw [if_neg (show ¬ (q_one (Lc mh mn mdy mkd mfg mag mpo mwy) i ∧ q_cell c ∧ 0 ≤ w ∧ w ≤ 1) from (show ¬ ((0 ≤ i ∧ i ≤ mn - 1) ∧ (0 ≤ c ∧ c ≤ 14) ∧ 0 ≤ w ∧ w ≤ 1) by omega))]), Wk.mk⟩
end HHIR
