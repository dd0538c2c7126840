section HAGE
theorem in_X12_ages_X12 : ∀ w ∈ u_ws RX12 TX12 34, w ∈ wsX12_ages := by decide +kernel
theorem ok_X12_ages : okY yX12_ages 3 := by decide +kernel
def rmX12_ages : Room := { frames := 7, cells := 0, slots := 0, locals := 159 }
set_option maxRecDepth 100000 in
set_option maxHeartbeats 400000 in
theorem c_X12_ages (l : Launch) (γ : GX) (a : Nat → Nat) (mh : Int → Int) (mn : Int) (mkd : Int → Int) (mfg : Int → Int) (mag : Int → Int) (mpo : Int → Int) (mwy : Int → Int) (mdy : Int) (mhw : Int → Int) (mkk : Int → Int) (mkf : Int → Int) (mrs : Int → Int) (mrm : Int → Int) (mrw : Int → Int) (mth : Int) (mgr : Int → Int) (mwa : Int → Int) (mre : Int) (mpl : Int) (mib : Int) (msn : Int) (mpn : Int → Int) (mlo : Int → Int) (mtl : Int → Int) (mke : Int → Int) (mim : Int → Int) (mhi : Int) (mp0 : Int) (mtk : Int) (mki : Value) (mun : Int → Int) (msd : Int) (mbe : Int → Int) (hM : WFm mn mh mkd mfg mag mpo mwy mhw mkk mkf mrs mrm mrw) (d : Int) (i : Int) (w : Int) (h0_ : -2147483648 ≤ d ∧ d < 2147483648) (h1_ : -2147483648 ≤ i ∧ i < 2147483648) (h2_ : -2147483648 ≤ w ∧ w < 2147483648) : MI l γ yX12_ages wsX12_ages rmX12_ages [.ref (a 0), .int (iN (d)), .int (iN (i)), .int (iN (w))] (WM γ a mh mn mkd mfg mag mpo mwy mdy mhw mkk mkf mrs mrm mrw mth 0 mgr mwa mre mpl mib msn mpn mlo mtl mke mim mhi mp0 mtk mki mun msd mbe) (fun r_ w_ => r_ = q_ages d (mhw d) (mrs d) (mrm d) (fun t => mrw (100 * d + t)) (Lc mh mn mdy mkd mfg mag mpo mwy) i w ∧ Wk γ a mh mn mkd mfg mag mpo mwy mdy mhw mkk mkf mrs mrm mrw 0 mim mhi w_) 0 0 := by
  refine MI.of (cc := cX12_ages) (maxL := 10) (rt := .int) RX12 rfl (by decide +kernel) rfl (Nat.le_of_ble_eq_true rfl) ?_
  intro X C hγ hl hnm hret
  subst hγ
  have hMn := WFm.n hM
  have hrm := WFm.rm hM d
  show Wx X 0 0 (WM X.γ a mh mn mkd mfg mag mpo mwy mdy mhw mkk mkf mrs mrm mrw mth 0 mgr mwa mre mpl mib msn mpn mlo mtl mke mim mhi mp0 mtk mki mun msd mbe) 0 [(0, .ref (a 0)), (1, .int (iN (d))), (2, .int (iN (i))), (3, .int (iN (w)))] []
  refine x_aload_n C 0 rfl rfl dX12_ages_0 ?_
  refine x_iconst (v := 0) C dX12_ages_1 ?_
  refine x_put C in_X12_ages_X12 tyX12 tyX12_ok nmX12 0 rfl rfl 14 (by decide) (List.mem_of_getElem? (i := 1) rfl) rfl rfl rfl rfl rfl (Nat.le_of_ble_eq_true rfl) (WM X.γ a mh mn mkd mfg mag mpo mwy mdy mhw mkk mkf mrs mrm mrw 0 0 mgr mwa mre mpl mib msn mpn mlo mtl mke mim mhi mp0 mtk mki mun msd mbe) rfl dX12_ages_2 ?_
  refine x_aload_n C 0 rfl rfl dX12_ages_5 ?_
  refine x_iload_n C 2 rfl rfl dX12_ages_6 ?_
  refine x_V_I C (As := [.int (iN (i))]) (rest := []) 1 0 rfl rfl gX12_ages_X12_isOne rfl (c_X12_isOne _ _ a mh mn mkd mfg mag mpo mwy mdy mhw mkk mkf mrs mrm mrw 0 0 mgr mwa mre mpl mib msn mpn mlo mtl mke mim mhi mp0 mtk mki mun msd mbe hM (i) (by omega)) rfl ok_X12_isOne rfl rfl rfl rfl dX12_ages_7 (fun r w1 hp => ?_)
  obtain ⟨rfl, rfl⟩ := hp
  have LP34 : ∀ (s0_34 : Int), (s0_34 = (if (0 ≤ i ∧ i ≤ mn - 1) ∧ 0 ≤ w ∧ w ≤ 2 then (if 0 ≤ d ∧ d ≤ 7 then (if mhw d = 0 then -11 else if mhw d = 2 then 0 else -12) else -1) else -1)) → Wx X 0 0 (WM X.γ a mh mn mkd mfg mag mpo mwy mdy mhw mkk mkf mrs mrm mrw 0 0 mgr mwa mre mpl mib msn mpn mlo mtl mke mim mhi mp0 mtk mki mun msd mbe) 34 [(0, .ref (a 0)), (1, .int (iN (d))), (2, .int (iN (i))), (3, .int (iN (w)))] [.int (iN (s0_34))] := by
    intro s0_34 es0_34
    refine x_istore C [(4, .int (iN (s0_34))), (0, .ref (a 0)), (1, .int (iN (d))), (2, .int (iN (i))), (3, .int (iN (w)))] (by decide) rfl dX12_ages_34 ?_
    refine x_iload C 0 rfl dX12_ages_36 ?_
    refine x_if_ge C 44 (by decide) (by omega) dX12_ages_38 (fun c_38 => ?_) (fun c_38 => ?_)
    · refine x_iconst (v := 0) C dX12_ages_44 ?_
      refine x_istore C [(5, .int (iN (0))), (4, .int (iN (s0_34))), (0, .ref (a 0)), (1, .int (iN (d))), (2, .int (iN (i))), (3, .int (iN (w)))] (by decide) rfl dX12_ages_45 ?_
      refine x_bipush C (-4) (by decide) dX12_ages_47 ?_
      refine x_istore C [(6, .int (iN (-4))), (5, .int (iN (0))), (4, .int (iN (s0_34))), (0, .ref (a 0)), (1, .int (iN (d))), (2, .int (iN (i))), (3, .int (iN (w)))] (by decide) rfl dX12_ages_49 ?_
      refine x_bipush C (-4) (by decide) dX12_ages_51 ?_
      refine x_istore C [(7, .int (iN (-4))), (6, .int (iN (-4))), (5, .int (iN (0))), (4, .int (iN (s0_34))), (0, .ref (a 0)), (1, .int (iN (d))), (2, .int (iN (i))), (3, .int (iN (w)))] (by decide) rfl dX12_ages_53 ?_
      refine x_aload_n C 4 rfl rfl dX12_ages_55 ?_
      refine x_V_V C (As := []) (rest := []) 0 0 rfl rfl gX12_ages_X12_open rfl (c_X12_open _ _ a mh mn mkd mfg mag mpo mwy mdy mhw mkk mkf mrs mrm mrw 0 0 mgr mwa mre mpl mib msn mpn mlo mtl mke mim mhi mp0 mtk mki mun msd mbe) rfl ok_X12_open rfl rfl rfl rfl dX12_ages_56 (fun w1 hp => ?_)
      obtain rfl := hp
      refine x_iconst (v := 0) C dX12_ages_59 ?_
      refine x_istore C [(8, .int (iN (0))), (7, .int (iN (-4))), (6, .int (iN (-4))), (5, .int (iN (0))), (4, .int (iN (s0_34))), (0, .ref (a 0)), (1, .int (iN (d))), (2, .int (iN (i))), (3, .int (iN (w)))] (by decide) rfl dX12_ages_60 ?_
      have LP62 : ∀ (f : Nat) (k : Nat) (G : Int → Int) (TK : Int) (v8_62 : Int) (v7_62 : Int) (v6_62 : Int) (v5_62 : Int), (121 - k < f) → (k ≤ 121) → (((k : Int)) = v8_62) → (v7_62 = (agg (Lc mh mn mdy mkd mfg mag mpo mwy) (mrs d) i (fun t => mrw (100 * d + t)) (mrm d).toNat k)) → (v6_62 = (agl (Lc mh mn mdy mkd mfg mag mpo mwy) (mrs d) i (fun t => mrw (100 * d + t)) (mrm d).toNat k)) → (v5_62 = (agn (Lc mh mn mdy mkd mfg mag mpo mwy) (mrs d) i (fun t => mrw (100 * d + t)) (mrm d).toNat k)) → Wx X 0 0 (WM X.γ a mh mn mkd mfg mag mpo mwy mdy mhw mkk mkf mrs mrm mrw 0 0 G mwa mre mpl mib msn mpn mlo mtl (pck mh mn mdy mkd mfg mag mpo mwy) mim mhi 47 TK (.ref (a 18)) mun msd mbe) 62 [(8, .int (iN (v8_62))), (7, .int (iN (v7_62))), (6, .int (iN (v6_62))), (5, .int (iN (v5_62))), (4, .int (iN (s0_34))), (0, .ref (a 0)), (1, .int (iN (d))), (2, .int (iN (i))), (3, .int (iN (w)))] [] := by
        intro f
        induction f with
        | zero => intro k G TK v8_62 v7_62 v6_62 v5_62 hf; exact absurd hf (Nat.not_lt_zero _)
        | succ f ih62 =>
          intro k G TK v8_62 v7_62 v6_62 v5_62 hf hk e8_62 e7_62 e6_62 e5_62
          subst e8_62
          have bl := agl_b (Lc mh mn mdy mkd mfg mag mpo mwy) (mrs d) i (fun t => mrw (100 * d + t)) (mrm d).toNat k
          refine x_iload C 0 rfl dX12_ages_62 ?_
          refine x_bipush C (120) (by decide) dX12_ages_64 ?_
          refine x_icmp_gt C 139 (by decide) (by omega) dX12_ages_66 (fun c_66 => ?_) (fun c_66 => ?_)
          · refine x_iload_n C 8 rfl rfl dX12_ages_139 ?_
            refine x_if_ne C 148 (by decide) (by omega) dX12_ages_140 (fun c_140 => ?_) (fun c_140 => ?_)
            · refine x_iload_n C 8 rfl rfl dX12_ages_148 ?_
              refine x_iconst (v := 0) C dX12_ages_149 ?_
              refine x_icmp_ne C 158 (by decide) (by omega) dX12_ages_150 (fun c_150 => ?_) (fun c_150 => ?_)
              · refine x_iload C 1 rfl dX12_ages_158 ?_
                exact hret _ _ _ _ dX12_ages_160 rfl ⟨(by have hz : k = 121 := (by omega); subst hz; unfold q_ages; rw [if_pos (show q_one (Lc mh mn mdy mkd mfg mag mpo mwy) i ∧ 0 ≤ w ∧ w ≤ 2 from (show (0 ≤ i ∧ i ≤ mn - 1) ∧ 0 ≤ w ∧ w ≤ 2 by omega))]; unfold q_wr; rw [if_pos (show 0 ≤ d ∧ d ≤ 7 by omega), if_neg (show ¬ mhw d = 0 by omega), if_pos (show mhw d = 2 by omega)]; rw [if_neg (show ¬ w = 0 by omega), if_neg (show ¬ w = 1 by omega)]; exact e7_62), Wk.mk⟩
              · refine x_iload C 2 rfl dX12_ages_153 ?_
                refine x_goto C 160 (by decide) dX12_ages_155 ?_
                exact hret _ _ _ _ dX12_ages_160 rfl ⟨(by have hz : k = 121 := (by omega); subst hz; unfold q_ages; rw [if_pos (show q_one (Lc mh mn mdy mkd mfg mag mpo mwy) i ∧ 0 ≤ w ∧ w ≤ 2 from (show (0 ≤ i ∧ i ≤ mn - 1) ∧ 0 ≤ w ∧ w ≤ 2 by omega))]; unfold q_wr; rw [if_pos (show 0 ≤ d ∧ d ≤ 7 by omega), if_neg (show ¬ mhw d = 0 by omega), if_pos (show mhw d = 2 by omega)]; rw [if_neg (show ¬ w = 0 by omega), if_pos (show w = 1 by omega)]; exact e6_62), Wk.mk⟩
            · refine x_iload C 3 rfl dX12_ages_143 ?_
              refine x_goto C 160 (by decide) dX12_ages_145 ?_
              exact hret _ _ _ _ dX12_ages_160 rfl ⟨(by have hz : k = 121 := (by omega); subst hz; unfold q_ages; rw [if_pos (show q_one (Lc mh mn mdy mkd mfg mag mpo mwy) i ∧ 0 ≤ w ∧ w ≤ 2 from (show (0 ≤ i ∧ i ≤ mn - 1) ∧ 0 ≤ w ∧ w ≤ 2 by omega))]; unfold q_wr; rw [if_pos (show 0 ≤ d ∧ d ≤ 7 by omega), if_neg (show ¬ mhw d = 0 by omega), if_pos (show mhw d = 2 by omega)]; rw [if_pos (show w = 0 by omega)]; exact e5_62), Wk.mk⟩
          · refine x_aload_n C 5 rfl rfl dX12_ages_69 ?_
            refine x_get C in_X12_ages_X12 0 rfl rfl 4 (by decide) (List.mem_of_getElem? (i := 3) rfl) rfl (v := .ref (a 4)) rfl dX12_ages_70 ?_
            refine x_iload_n C 7 rfl rfl dX12_ages_73 ?_
            refine x_iload C 0 rfl dX12_ages_74 ?_
            refine x_iastore C (f := mag) 4 rfl (by omega) rfl (WM X.γ a mh mn mkd mfg (upz mag i (k : Int)) mpo mwy mdy mhw mkk mkf mrs mrm mrw 0 0 G mwa mre mpl mib msn mpn mlo mtl (pck mh mn mdy mkd mfg mag mpo mwy) mim mhi 47 TK (.ref (a 18)) mun msd mbe) rfl dX12_ages_76 ?_
            refine x_aload_n C 5 rfl rfl dX12_ages_77 ?_
            refine x_iload_n C 6 rfl rfl dX12_ages_78 ?_
            refine x_iload_n C 7 rfl rfl dX12_ages_79 ?_
            refine x_V_I C (As := [.int (iN (d)), .int (iN (i))]) (rest := []) 2 0 rfl rfl gX12_ages_X12_isRow rfl (c_X12_isRow _ _ a mh mn mkd mfg (upz mag i (k : Int)) mpo mwy mdy mhw mkk mkf mrs mrm mrw 0 G mwa mre mpl mib msn mpn mlo mtl mim mhi 47 TK (.ref (a 18)) mun msd mbe mh mn mdy mkd mfg mag mpo mwy (WFm.natr hM (WFm.kd hM) (WFm.fg hM) (bd_upz (i := i) (WFm.ag hM) (show 0 ≤ (k : Int) ∧ (k : Int) ≤ 120 by omega))) d i (by omega) (by omega)) rfl ok_X12_isRow rfl rfl rfl rfl dX12_ages_80 (fun r w1 hp => ?_)
            obtain ⟨Gb178, rfl, rfl⟩ := hp
            show Wx X 0 0 (WM X.γ a mh mn mkd mfg mag mpo mwy mdy mhw mkk mkf mrs mrm mrw 0 0 Gb178 mwa mre mpl mib msn mpn mlo mtl (pck mh mn mdy mkd mfg mag mpo mwy) mim mhi 47 0 (.ref (a 18)) mun msd mbe) 83 [(8, .int (iN ((k : Int)))), (7, .int (iN (v7_62))), (6, .int (iN (v6_62))), (5, .int (iN (v5_62))), (4, .int (iN (s0_34))), (0, .ref (a 0)), (1, .int (iN (d))), (2, .int (iN (i))), (3, .int (iN (w)))] [.int (iN (rok (Lc mh mn mdy mkd mfg (upz mag i (k : Int)) mpo mwy) (mrs d) i (fun t => mrw (100 * d + t)) (mrm d).toNat))]
            obtain ⟨rr, hrr⟩ : ∃ rr : Int, rok (Lc mh mn mdy mkd mfg (upz mag i (k : Int)) mpo mwy) (mrs d) i (fun t => mrw (100 * d + t)) (mrm d).toNat = rr := ⟨_, rfl⟩
            rw [hrr]
            have hr01 : rr = 0 ∨ rr = 1 := by rw [← hrr]; exact rok_01 _ _ _ _ _
            have hag : agis (Lc mh mn mdy mkd mfg mag mpo mwy) (mrs d) i (fun t => mrw (100 * d + t)) (mrm d).toNat k = rr := by rw [← hrr, Lc_ag]; rfl
            refine x_istore C [(9, .int (iN (rr))), (8, .int (iN ((k : Int)))), (7, .int (iN (v7_62))), (6, .int (iN (v6_62))), (5, .int (iN (v5_62))), (4, .int (iN (s0_34))), (0, .ref (a 0)), (1, .int (iN (d))), (2, .int (iN (i))), (3, .int (iN (w)))] (by decide) rfl dX12_ages_83 ?_
            refine x_iload C 4 rfl dX12_ages_85 ?_
            refine x_iload C 0 rfl dX12_ages_87 ?_
            have LP97 : ∀ (s0_97 : Int), (s0_97 = (rr)) → Wx X 0 0 (WM X.γ a mh mn mkd mfg mag mpo mwy mdy mhw mkk mkf mrs mrm mrw 0 0 Gb178 mwa mre mpl mib msn mpn mlo mtl (pck mh mn mdy mkd mfg mag mpo mwy) mim mhi 47 0 (.ref (a 18)) mun msd mbe) 97 [(9, .int (iN (rr))), (8, .int (iN ((k : Int)))), (7, .int (iN (v7_62))), (6, .int (iN (v6_62))), (5, .int (iN (v5_62))), (4, .int (iN (s0_34))), (0, .ref (a 0)), (1, .int (iN (d))), (2, .int (iN (i))), (3, .int (iN (w)))] [.int (iN (s0_97)), .int (iN (v5_62))] := by
              intro s0_97 es0_97
              refine x_iadd C dX12_ages_97 ?_
              refine x_istore C [(5, .int (iN (v5_62 + s0_97))), (9, .int (iN (rr))), (8, .int (iN ((k : Int)))), (7, .int (iN (v7_62))), (6, .int (iN (v6_62))), (4, .int (iN (s0_34))), (0, .ref (a 0)), (1, .int (iN (d))), (2, .int (iN (i))), (3, .int (iN (w)))] (by decide) rfl dX12_ages_98 ?_
              refine x_iload C 1 rfl dX12_ages_100 ?_
              have LP117 : ∀ (s0_117 : Int), (s0_117 = (if rr ≠ 0 ∧ v6_62 < 0 then (k : Int) else v6_62)) → Wx X 0 0 (WM X.γ a mh mn mkd mfg mag mpo mwy mdy mhw mkk mkf mrs mrm mrw 0 0 Gb178 mwa mre mpl mib msn mpn mlo mtl (pck mh mn mdy mkd mfg mag mpo mwy) mim mhi 47 0 (.ref (a 18)) mun msd mbe) 117 [(5, .int (iN (v5_62 + s0_97))), (9, .int (iN (rr))), (8, .int (iN ((k : Int)))), (7, .int (iN (v7_62))), (6, .int (iN (v6_62))), (4, .int (iN (s0_34))), (0, .ref (a 0)), (1, .int (iN (d))), (2, .int (iN (i))), (3, .int (iN (w)))] [.int (iN (s0_117))] := by
                intro s0_117 es0_117
                refine x_istore C [(6, .int (iN (s0_117))), (5, .int (iN (v5_62 + s0_97))), (9, .int (iN (rr))), (8, .int (iN ((k : Int)))), (7, .int (iN (v7_62))), (4, .int (iN (s0_34))), (0, .ref (a 0)), (1, .int (iN (d))), (2, .int (iN (i))), (3, .int (iN (w)))] (by decide) rfl dX12_ages_117 ?_
                refine x_iload C 2 rfl dX12_ages_119 ?_
                have LP131 : ∀ (s0_131 : Int), (s0_131 = (if rr ≠ 0 then (k : Int) else v7_62)) → Wx X 0 0 (WM X.γ a mh mn mkd mfg mag mpo mwy mdy mhw mkk mkf mrs mrm mrw 0 0 Gb178 mwa mre mpl mib msn mpn mlo mtl (pck mh mn mdy mkd mfg mag mpo mwy) mim mhi 47 0 (.ref (a 18)) mun msd mbe) 131 [(6, .int (iN (s0_117))), (5, .int (iN (v5_62 + s0_97))), (9, .int (iN (rr))), (8, .int (iN ((k : Int)))), (7, .int (iN (v7_62))), (4, .int (iN (s0_34))), (0, .ref (a 0)), (1, .int (iN (d))), (2, .int (iN (i))), (3, .int (iN (w)))] [.int (iN (s0_131))] := by
                  intro s0_131 es0_131
                  refine x_istore C [(7, .int (iN (s0_131))), (6, .int (iN (s0_117))), (5, .int (iN (v5_62 + s0_97))), (9, .int (iN (rr))), (8, .int (iN ((k : Int)))), (4, .int (iN (s0_34))), (0, .ref (a 0)), (1, .int (iN (d))), (2, .int (iN (i))), (3, .int (iN (w)))] (by decide) rfl dX12_ages_131 ?_
                  refine x_iinc C 4 [(8, .int (iN ((k : Int) + 1))), (7, .int (iN (s0_131))), (6, .int (iN (s0_117))), (5, .int (iN (v5_62 + s0_97))), (9, .int (iN (rr))), (4, .int (iN (s0_34))), (0, .ref (a 0)), (1, .int (iN (d))), (2, .int (iN (i))), (3, .int (iN (w)))] rfl rfl (by decide) rfl dX12_ages_133 ?_
                  refine x_goto C 62 (by decide) dX12_ages_136 ?_
                  refine Wx.subL [0, 1, 2, 3, 5, 6, 7, 8, 9] rfl ?_
                  exact ih62 (k + 1) (Gb178) (0) _ _ _ _ (by omega) (by omega) (by omega) (by simp only [agg]; rw [hag, ← e7_62, es0_131]) (by simp only [agl]; rw [hag, ← e6_62, es0_117]) (by simp only [agn]; rw [hag, e5_62, es0_97])
                refine x_if_eq C 129 (by decide) (by omega) dX12_ages_121 (fun c_121 => ?_) (fun c_121 => ?_)
                · refine x_iload C 4 rfl dX12_ages_129 ?_
                  exact LP131 _ (by omega)
                · refine x_iload C 3 rfl dX12_ages_124 ?_
                  refine x_goto C 131 (by decide) dX12_ages_126 ?_
                  exact LP131 _ (by omega)
              refine x_if_eq C 115 (by decide) (by omega) dX12_ages_102 (fun c_102 => ?_) (fun c_102 => ?_)
              · refine x_iload C 4 rfl dX12_ages_115 ?_
                exact LP117 _ (by omega)
              · refine x_iload C 4 rfl dX12_ages_105 ?_
                refine x_if_ge C 115 (by decide) (by omega) dX12_ages_107 (fun c_107 => ?_) (fun c_107 => ?_)
                · refine x_iload C 4 rfl dX12_ages_115 ?_
                  exact LP117 _ (by omega)
                · refine x_iload C 2 rfl dX12_ages_110 ?_
                  refine x_goto C 117 (by decide) dX12_ages_112 ?_
                  exact LP117 _ (by omega)
            refine x_if_eq C 96 (by decide) (by omega) dX12_ages_89 (fun c_89 => ?_) (fun c_89 => ?_)
            · refine x_iconst (v := 0) C dX12_ages_96 ?_
              exact LP97 _ (by omega)
            · refine x_iconst (v := 0) C dX12_ages_92 ?_
              refine x_goto C 97 (by decide) dX12_ages_93 ?_
              exact LP97 _ (by omega)
      exact LP62 ((121 - (0)) + 1) (0) (mgr) (1) _ _ _ _ (by omega) (by omega) (by omega) (rfl) (rfl) (rfl)
    · refine x_iload C 0 rfl dX12_ages_41 ?_
      exact hret _ _ _ _ dX12_ages_43 rfl ⟨(by by_cases hq : (0 ≤ i ∧ i ≤ mn - 1) ∧ 0 ≤ w ∧ w ≤ 2; (unfold q_ages; rw [if_pos (show q_one (Lc mh mn mdy mkd mfg mag mpo mwy) i ∧ 0 ≤ w ∧ w ≤ 2 from hq)]; unfold q_wr; omega); (unfold q_ages; rw [if_neg (show ¬ (q_one (Lc mh mn mdy mkd mfg mag mpo mwy) i ∧ 0 ≤ w ∧ w ≤ 2) from hq)]; omega)), Wk.mk⟩
  refine x_ifeq_bz C 33 (by decide) dX12_ages_10 (fun c_10 => ?_) (fun c_10 => ?_)
  · refine x_iconst (v := 0) C dX12_ages_33 ?_
    exact LP34 _ (by omega)
  · refine x_iload_n C 3 rfl rfl dX12_ages_13 ?_
    refine x_i2l C (by omega) dX12_ages_14 ?_
    refine x_lconst C 0 rfl dX12_ages_15 ?_
    refine x_ldc2 C (2) (List.mem_of_getElem? (i := 2) rfl) (by decide) dX12_ages_16 ?_
    refine x_S_I C (As := [.long (jN (w)), .long (jN (0)), .long (jN (2))]) (rest := []) 3 gX12_ages_X12_in (c_X12_in _ _ (WM X.γ a mh mn mkd mfg mag mpo mwy mdy mhw mkk mkf mrs mrm mrw 0 0 mgr mwa mre mpl mib msn mpn mlo mtl mke mim mhi mp0 mtk mki mun msd mbe) (w) (0) (2) (by omega) (by omega) (by omega)) rfl ok_X12_in rfl rfl rfl rfl dX12_ages_19 (fun r w1 hp => ?_)
    obtain ⟨rfl, rfl⟩ := hp
    refine x_ifeq_bz C 33 (by decide) dX12_ages_22 (fun c_22 => ?_) (fun c_22 => ?_)
    · refine x_iconst (v := 0) C dX12_ages_33 ?_
      exact LP34 _ (by omega)
    · refine x_aload_n C 0 rfl rfl dX12_ages_25 ?_
      refine x_iload_n C 1 rfl rfl dX12_ages_26 ?_
      refine x_V_I C (As := [.int (iN (d))]) (rest := []) 1 0 rfl rfl gX12_ages_X12_wrongRow rfl (c_X12_wrongRow _ _ a mh mn mkd mfg mag mpo mwy mdy mhw mkk mkf mrs mrm mrw 0 0 mgr mwa mre mpl mib msn mpn mlo mtl mke mim mhi mp0 mtk mki mun msd mbe hM (d) (by omega)) rfl ok_X12_wrongRow rfl rfl rfl rfl dX12_ages_27 (fun r w1 hp => ?_)
      obtain ⟨rfl, rfl⟩ := hp
      show Wx X 0 0 (WM X.γ a mh mn mkd mfg mag mpo mwy mdy mhw mkk mkf mrs mrm mrw 0 0 mgr mwa mre mpl mib msn mpn mlo mtl mke mim mhi mp0 mtk mki mun msd mbe) 30 [(0, .ref (a 0)), (1, .int (iN (d))), (2, .int (iN (i))), (3, .int (iN (w)))] [.int (iN (if 0 ≤ d ∧ d ≤ 7 then (if mhw d = 0 then -11 else if mhw d = 2 then 0 else -12) else -1))]
      refine x_goto C 34 (by decide) dX12_ages_30 ?_
      exact LP34 _ (by omega)
theorem in_X12_whatIs_X12 : ∀ w ∈ u_ws RX12 TX12 34, w ∈ wsX12_whatIs := by decide +kernel
theorem ok_X12_whatIs : okY yX12_whatIs 3 := by decide +kernel
def rmX12_whatIs : Room := { frames := 7, cells := 0, slots := 0, locals := 159 }
set_option maxRecDepth 100000 in
set_option maxHeartbeats 400000 in
theorem c_X12_whatIs (l : Launch) (γ : GX) (a : Nat → Nat) (mh : Int → Int) (mn : Int) (mkd : Int → Int) (mfg : Int → Int) (mag : Int → Int) (mpo : Int → Int) (mwy : Int → Int) (mdy : Int) (mhw : Int → Int) (mkk : Int → Int) (mkf : Int → Int) (mrs : Int → Int) (mrm : Int → Int) (mrw : Int → Int) (mth : Int) (mgr : Int → Int) (mwa : Int → Int) (mre : Int) (mpl : Int) (mib : Int) (msn : Int) (mpn : Int → Int) (mlo : Int → Int) (mtl : Int → Int) (mke : Int → Int) (mim : Int → Int) (mhi : Int) (mp0 : Int) (mtk : Int) (mki : Value) (mun : Int → Int) (msd : Int) (mbe : Int → Int) (hM : WFm mn mh mkd mfg mag mpo mwy mhw mkk mkf mrs mrm mrw) (d : Int) (i : Int) (w : Int) (h0_ : -2147483648 ≤ d ∧ d < 2147483648) (h1_ : -2147483648 ≤ i ∧ i < 2147483648) (h2_ : -2147483648 ≤ w ∧ w < 2147483648) : MI l γ yX12_whatIs wsX12_whatIs rmX12_whatIs [.ref (a 0), .int (iN (d)), .int (iN (i)), .int (iN (w))] (WM γ a mh mn mkd mfg mag mpo mwy mdy mhw mkk mkf mrs mrm mrw mth 0 mgr mwa mre mpl mib msn mpn mlo mtl mke mim mhi mp0 mtk mki mun msd mbe) (fun r_ w_ => r_ = q_whatIs d (mhw d) (mrs d) (mrm d) (fun t => mrw (100 * d + t)) (Lc mh mn mdy mkd mfg mag mpo mwy) i w ∧ Wk γ a mh mn mkd mfg mag mpo mwy mdy mhw mkk mkf mrs mrm mrw 0 mim mhi w_) 0 0 := by
  refine MI.of (cc := cX12_whatIs) (maxL := 7) (rt := .int) RX12 rfl (by decide +kernel) rfl (Nat.le_of_ble_eq_true rfl) ?_
  intro X C hγ hl hnm hret
  subst hγ
  have hMn := WFm.n hM
  have hrm := WFm.rm hM d
  show Wx X 0 0 (WM X.γ a mh mn mkd mfg mag mpo mwy mdy mhw mkk mkf mrs mrm mrw mth 0 mgr mwa mre mpl mib msn mpn mlo mtl mke mim mhi mp0 mtk mki mun msd mbe) 0 [(0, .ref (a 0)), (1, .int (iN (d))), (2, .int (iN (i))), (3, .int (iN (w)))] []
  refine x_aload_n C 0 rfl rfl dX12_whatIs_0 ?_
  refine x_iconst (v := 0) C dX12_whatIs_1 ?_
  refine x_put C in_X12_whatIs_X12 tyX12 tyX12_ok nmX12 0 rfl rfl 14 (by decide) (List.mem_of_getElem? (i := 1) rfl) rfl rfl rfl rfl rfl (Nat.le_of_ble_eq_true rfl) (WM X.γ a mh mn mkd mfg mag mpo mwy mdy mhw mkk mkf mrs mrm mrw 0 0 mgr mwa mre mpl mib msn mpn mlo mtl mke mim mhi mp0 mtk mki mun msd mbe) rfl dX12_whatIs_2 ?_
  refine x_aload_n C 0 rfl rfl dX12_whatIs_5 ?_
  refine x_iload_n C 2 rfl rfl dX12_whatIs_6 ?_
  refine x_V_I C (As := [.int (iN (i))]) (rest := []) 1 0 rfl rfl gX12_whatIs_X12_isOne rfl (c_X12_isOne _ _ a mh mn mkd mfg mag mpo mwy mdy mhw mkk mkf mrs mrm mrw 0 0 mgr mwa mre mpl mib msn mpn mlo mtl mke mim mhi mp0 mtk mki mun msd mbe hM (i) (by omega)) rfl ok_X12_isOne rfl rfl rfl rfl dX12_whatIs_7 (fun r w1 hp => ?_)
  obtain ⟨rfl, rfl⟩ := hp
  have LP32 : ∀ (s0_32 : Int), (s0_32 = (if (0 ≤ i ∧ i ≤ mn - 1) ∧ 0 ≤ w ∧ w ≤ 1 then (if 0 ≤ d ∧ d ≤ 7 then (if mhw d = 0 then -11 else if mhw d = 2 then 0 else -12) else -1) else -1)) → Wx X 0 0 (WM X.γ a mh mn mkd mfg mag mpo mwy mdy mhw mkk mkf mrs mrm mrw 0 0 mgr mwa mre mpl mib msn mpn mlo mtl mke mim mhi mp0 mtk mki mun msd mbe) 32 [(0, .ref (a 0)), (1, .int (iN (d))), (2, .int (iN (i))), (3, .int (iN (w)))] [.int (iN (s0_32))] := by
    intro s0_32 es0_32
    refine x_istore C [(4, .int (iN (s0_32))), (0, .ref (a 0)), (1, .int (iN (d))), (2, .int (iN (i))), (3, .int (iN (w)))] (by decide) rfl dX12_whatIs_32 ?_
    refine x_iload C 0 rfl dX12_whatIs_34 ?_
    refine x_if_ge C 42 (by decide) (by omega) dX12_whatIs_36 (fun c_36 => ?_) (fun c_36 => ?_)
    · refine x_iconst (v := 0) C dX12_whatIs_42 ?_
      refine x_istore C [(5, .int (iN (0))), (4, .int (iN (s0_32))), (0, .ref (a 0)), (1, .int (iN (d))), (2, .int (iN (i))), (3, .int (iN (w)))] (by decide) rfl dX12_whatIs_43 ?_
      refine x_aload_n C 2 rfl rfl dX12_whatIs_45 ?_
      refine x_V_V C (As := []) (rest := []) 0 0 rfl rfl gX12_whatIs_X12_open rfl (c_X12_open _ _ a mh mn mkd mfg mag mpo mwy mdy mhw mkk mkf mrs mrm mrw 0 0 mgr mwa mre mpl mib msn mpn mlo mtl mke mim mhi mp0 mtk mki mun msd mbe) rfl ok_X12_open rfl rfl rfl rfl dX12_whatIs_46 (fun w1 hp => ?_)
      obtain rfl := hp
      refine x_iconst (v := 0) C dX12_whatIs_49 ?_
      refine x_istore C [(6, .int (iN (0))), (5, .int (iN (0))), (4, .int (iN (s0_32))), (0, .ref (a 0)), (1, .int (iN (d))), (2, .int (iN (i))), (3, .int (iN (w)))] (by decide) rfl dX12_whatIs_50 ?_
      have LP52 : ∀ (f : Nat) (k : Nat) (G : Int → Int) (TK : Int) (v6_52 : Int) (v5_52 : Int), (10 - k < f) → ((k : Int) ≤ if w = 0 then 8 else 10) → (((k : Int)) = v6_52) → (v5_52 = (bitz (fun t => whis (Lc mh mn mdy mkd mfg mag mpo mwy) (mrs d) i (fun t => mrw (100 * d + t)) (mrm d).toNat w t ≠ 0) k)) → Wx X 0 0 (WM X.γ a mh mn mkd mfg mag mpo mwy mdy mhw mkk mkf mrs mrm mrw 0 0 G mwa mre mpl mib msn mpn mlo mtl (pck mh mn mdy mkd mfg mag mpo mwy) mim mhi 47 TK (.ref (a 18)) mun msd mbe) 52 [(6, .int (iN (v6_52))), (5, .int (iN (v5_52))), (4, .int (iN (s0_32))), (0, .ref (a 0)), (1, .int (iN (d))), (2, .int (iN (i))), (3, .int (iN (w)))] [] := by
        intro f
        induction f with
        | zero => intro k G TK v6_52 v5_52 hf; exact absurd hf (Nat.not_lt_zero _)
        | succ f ih52 =>
          intro k G TK v6_52 v5_52 hf hk e6_52 e5_52
          subst e6_52
          refine x_iload C 0 rfl dX12_whatIs_52 ?_
          refine x_iload_n C 6 rfl rfl dX12_whatIs_54 ?_
          have LP65 : ∀ (s0_65 : Int), (s0_65 = (if w = 0 then 8 else 10)) → Wx X 0 0 (WM X.γ a mh mn mkd mfg mag mpo mwy mdy mhw mkk mkf mrs mrm mrw 0 0 G mwa mre mpl mib msn mpn mlo mtl (pck mh mn mdy mkd mfg mag mpo mwy) mim mhi 47 TK (.ref (a 18)) mun msd mbe) 65 [(6, .int (iN ((k : Int)))), (5, .int (iN (v5_52))), (4, .int (iN (s0_32))), (0, .ref (a 0)), (1, .int (iN (d))), (2, .int (iN (i))), (3, .int (iN (w)))] [.int (iN (s0_65)), .int (iN ((k : Int)))] := by
            intro s0_65 es0_65
            refine x_icmp_ge C 139 (by decide) (by omega) dX12_whatIs_65 (fun c_65 => ?_) (fun c_65 => ?_)
            · refine x_iload C 1 rfl dX12_whatIs_139 ?_
              exact hret _ _ _ _ dX12_whatIs_141 rfl ⟨(by unfold q_whatIs; rw [if_pos (show q_one (Lc mh mn mdy mkd mfg mag mpo mwy) i ∧ 0 ≤ w ∧ w ≤ 1 from (show (0 ≤ i ∧ i ≤ mn - 1) ∧ 0 ≤ w ∧ w ≤ 1 by omega))]; unfold q_wr; rw [if_pos (show 0 ≤ d ∧ d ≤ 7 by omega), if_neg (show ¬ mhw d = 0 by omega), if_pos (show mhw d = 2 by omega)]; rw [e5_52, show k = (if w = 0 then 8 else 10) by split <;> omega]), Wk.mk⟩
            · refine x_aload_n C 3 rfl rfl dX12_whatIs_68 ?_
              refine x_get C in_X12_whatIs_X12 0 rfl rfl 2 (by decide) (List.mem_of_getElem? (i := 2) rfl) rfl (v := .ref (a 2)) rfl dX12_whatIs_69 ?_
              refine x_iload_n C 5 rfl rfl dX12_whatIs_72 ?_
              refine x_iload_n C 6 rfl rfl dX12_whatIs_73 ?_
              have LP88 : ∀ (s0_88 : Int), (s0_88 = (if w = 0 then (k : Int) else mkd i)) → Wx X 0 0 (WM X.γ a mh mn mkd mfg mag mpo mwy mdy mhw mkk mkf mrs mrm mrw 0 0 G mwa mre mpl mib msn mpn mlo mtl (pck mh mn mdy mkd mfg mag mpo mwy) mim mhi 47 TK (.ref (a 18)) mun msd mbe) 88 [(6, .int (iN ((k : Int)))), (5, .int (iN (v5_52))), (4, .int (iN (s0_32))), (0, .ref (a 0)), (1, .int (iN (d))), (2, .int (iN (i))), (3, .int (iN (w)))] [.int (iN (s0_88)), .int (iN (i)), .ref (a 2)] := by
                intro s0_88 es0_88
                have hs88 : 0 ≤ s0_88 ∧ s0_88 ≤ 7 := by have b1 := WFm.kd hM i; omega
                refine x_iastore C (f := mkd) 2 rfl (by omega) rfl (WM X.γ a mh mn (upz mkd i s0_88) mfg mag mpo mwy mdy mhw mkk mkf mrs mrm mrw 0 0 G mwa mre mpl mib msn mpn mlo mtl (pck mh mn mdy mkd mfg mag mpo mwy) mim mhi 47 TK (.ref (a 18)) mun msd mbe) rfl dX12_whatIs_88 ?_
                refine x_aload_n C 3 rfl rfl dX12_whatIs_89 ?_
                refine x_get C in_X12_whatIs_X12 0 rfl rfl 3 (by decide) (List.mem_of_getElem? (i := 3) rfl) rfl (v := .ref (a 3)) rfl dX12_whatIs_90 ?_
                refine x_iload_n C 5 rfl rfl dX12_whatIs_93 ?_
                refine x_iload_n C 6 rfl rfl dX12_whatIs_94 ?_
                refine x_iconst (v := 0) C dX12_whatIs_95 ?_
                have LP110 : ∀ (s0_110 : Int), (s0_110 = (if w = 1 then (k : Int) else mfg i)) → Wx X 0 0 (WM X.γ a mh mn (upz mkd i s0_88) mfg mag mpo mwy mdy mhw mkk mkf mrs mrm mrw 0 0 G mwa mre mpl mib msn mpn mlo mtl (pck mh mn mdy mkd mfg mag mpo mwy) mim mhi 47 TK (.ref (a 18)) mun msd mbe) 110 [(6, .int (iN ((k : Int)))), (5, .int (iN (v5_52))), (4, .int (iN (s0_32))), (0, .ref (a 0)), (1, .int (iN (d))), (2, .int (iN (i))), (3, .int (iN (w)))] [.int (iN (s0_110)), .int (iN (i)), .ref (a 3)] := by
                  intro s0_110 es0_110
                  have hs110 : 0 ≤ s0_110 ∧ s0_110 ≤ 9 := by have b1 := WFm.fg hM i; omega
                  refine x_iastore C (f := mfg) 3 rfl (by omega) rfl (WM X.γ a mh mn (upz mkd i s0_88) (upz mfg i s0_110) mag mpo mwy mdy mhw mkk mkf mrs mrm mrw 0 0 G mwa mre mpl mib msn mpn mlo mtl (pck mh mn mdy mkd mfg mag mpo mwy) mim mhi 47 TK (.ref (a 18)) mun msd mbe) rfl dX12_whatIs_110 ?_
                  refine x_iload C 1 rfl dX12_whatIs_111 ?_
                  refine x_aload_n C 3 rfl rfl dX12_whatIs_113 ?_
                  refine x_iload_n C 4 rfl rfl dX12_whatIs_114 ?_
                  refine x_iload_n C 5 rfl rfl dX12_whatIs_115 ?_
                  refine x_V_I C (As := [.int (iN (d)), .int (iN (i))]) (rest := [.int (iN (v5_52))]) 2 0 rfl rfl gX12_whatIs_X12_isRow rfl (c_X12_isRow _ _ a mh mn (upz mkd i s0_88) (upz mfg i s0_110) mag mpo mwy mdy mhw mkk mkf mrs mrm mrw 0 G mwa mre mpl mib msn mpn mlo mtl mim mhi 47 TK (.ref (a 18)) mun msd mbe mh mn mdy mkd mfg mag mpo mwy (WFm.natr hM (bd_upz (i := i) (WFm.kd hM) hs88) (bd_upz (i := i) (WFm.fg hM) hs110) (WFm.ag hM)) d i (by omega) (by omega)) rfl ok_X12_isRow rfl rfl rfl rfl dX12_whatIs_116 (fun r w1 hp => ?_)
                  obtain ⟨Gb179, rfl, rfl⟩ := hp
                  show Wx X 0 0 (WM X.γ a mh mn mkd mfg mag mpo mwy mdy mhw mkk mkf mrs mrm mrw 0 0 Gb179 mwa mre mpl mib msn mpn mlo mtl (pck mh mn mdy mkd mfg mag mpo mwy) mim mhi 47 0 (.ref (a 18)) mun msd mbe) 119 [(6, .int (iN ((k : Int)))), (5, .int (iN (v5_52))), (4, .int (iN (s0_32))), (0, .ref (a 0)), (1, .int (iN (d))), (2, .int (iN (i))), (3, .int (iN (w)))] [.int (iN (rok (Lc mh mn mdy (upz mkd i s0_88) (upz mfg i s0_110) mag mpo mwy) (mrs d) i (fun t => mrw (100 * d + t)) (mrm d).toNat)), .int (iN (v5_52))]
                  obtain ⟨rr, hrr⟩ : ∃ rr : Int, rok (Lc mh mn mdy (upz mkd i s0_88) (upz mfg i s0_110) mag mpo mwy) (mrs d) i (fun t => mrw (100 * d + t)) (mrm d).toNat = rr := ⟨_, rfl⟩
                  rw [hrr]
                  have hr01 : rr = 0 ∨ rr = 1 := by rw [← hrr]; exact rok_01 _ _ _ _ _
                  have hag : whis (Lc mh mn mdy mkd mfg mag mpo mwy) (mrs d) i (fun t => mrw (100 * d + t)) (mrm d).toNat w (k : Int) = rr := by rw [← hrr, Lc_kf]; unfold whis; rw [es0_88, es0_110]; rfl
                  have LP130 : ∀ (s0_130 : Int), (s0_130 = (if whis (Lc mh mn mdy mkd mfg mag mpo mwy) (mrs d) i (fun t => mrw (100 * d + t)) (mrm d).toNat w (k : Int) ≠ 0 then 2 ^ k else 0)) → Wx X 0 0 (WM X.γ a mh mn mkd mfg mag mpo mwy mdy mhw mkk mkf mrs mrm mrw 0 0 Gb179 mwa mre mpl mib msn mpn mlo mtl (pck mh mn mdy mkd mfg mag mpo mwy) mim mhi 47 0 (.ref (a 18)) mun msd mbe) 130 [(6, .int (iN ((k : Int)))), (5, .int (iN (v5_52))), (4, .int (iN (s0_32))), (0, .ref (a 0)), (1, .int (iN (d))), (2, .int (iN (i))), (3, .int (iN (w)))] [.int (iN (s0_130)), .int (iN (v5_52))] := by
                    intro s0_130 es0_130
                    refine x_ior C (v5_52 + s0_130) (by rw [e5_52]; exact iN_orq (bitz_b (fun t => whis (Lc mh mn mdy mkd mfg mag mpo mwy) (mrs d) i (fun t => mrw (100 * d + t)) (mrm d).toNat w t ≠ 0) k) (by omega) (by rw [es0_130]; split; exact Or.inr rfl; exact Or.inl rfl)) dX12_whatIs_130 ?_
                    refine x_istore C [(5, .int (iN (v5_52 + s0_130))), (6, .int (iN ((k : Int)))), (4, .int (iN (s0_32))), (0, .ref (a 0)), (1, .int (iN (d))), (2, .int (iN (i))), (3, .int (iN (w)))] (by decide) rfl dX12_whatIs_131 ?_
                    refine x_iinc C 1 [(6, .int (iN ((k : Int) + 1))), (5, .int (iN (v5_52 + s0_130))), (4, .int (iN (s0_32))), (0, .ref (a 0)), (1, .int (iN (d))), (2, .int (iN (i))), (3, .int (iN (w)))] rfl rfl (by decide) rfl dX12_whatIs_133 ?_
                    refine x_goto C 52 (by decide) dX12_whatIs_136 ?_
                    exact ih52 (k + 1) (Gb179) (0) _ _ (by omega) (by omega) (by omega) (by simp only [bitz]; rw [e5_52, es0_130]; by_cases q : whis (Lc mh mn mdy mkd mfg mag mpo mwy) (mrs d) i (fun t => mrw (100 * d + t)) (mrm d).toNat w (k : Int) ≠ 0; (rw [if_pos q, if_pos q]); (rw [if_neg q, if_neg q]; omega))
                  refine x_if_eq C 129 (by decide) (by omega) dX12_whatIs_119 (fun c_119 => ?_) (fun c_119 => ?_)
                  · refine x_iconst (v := 0) C dX12_whatIs_129 ?_
                    exact LP130 _ (by rw [hag, if_neg (fun z => z (by omega))])
                  · refine x_iconst (v := 0) C dX12_whatIs_122 ?_
                    refine x_iload C 0 rfl dX12_whatIs_123 ?_
                    refine x_ishl C (2 ^ k) (by rw [iN_shl1 (by omega), Int.toNat_natCast]) dX12_whatIs_125 ?_
                    refine x_goto C 130 (by decide) dX12_whatIs_126 ?_
                    exact LP130 _ (by rw [hag, if_pos (by omega)])
                refine x_icmp_ne C 104 (by decide) (by omega) dX12_whatIs_96 (fun c_96 => ?_) (fun c_96 => ?_)
                · refine x_aload_n C 3 rfl rfl dX12_whatIs_104 ?_
                  refine x_get C in_X12_whatIs_X12 0 rfl rfl 3 (by decide) (List.mem_of_getElem? (i := 3) rfl) rfl (v := .ref (a 3)) rfl dX12_whatIs_105 ?_
                  refine x_iload_n C 5 rfl rfl dX12_whatIs_108 ?_
                  refine x_iaload C (f := mfg) 3 rfl (by omega) rfl dX12_whatIs_109 ?_
                  have b180 := WFm.fg hM (i)
                  exact LP110 _ (by omega)
                · refine x_iload C 0 rfl dX12_whatIs_99 ?_
                  refine x_goto C 110 (by decide) dX12_whatIs_101 ?_
                  exact LP110 _ (by omega)
              refine x_if_ne C 82 (by decide) (by omega) dX12_whatIs_74 (fun c_74 => ?_) (fun c_74 => ?_)
              · refine x_aload_n C 3 rfl rfl dX12_whatIs_82 ?_
                refine x_get C in_X12_whatIs_X12 0 rfl rfl 2 (by decide) (List.mem_of_getElem? (i := 2) rfl) rfl (v := .ref (a 2)) rfl dX12_whatIs_83 ?_
                refine x_iload_n C 5 rfl rfl dX12_whatIs_86 ?_
                refine x_iaload C (f := mkd) 2 rfl (by omega) rfl dX12_whatIs_87 ?_
                have b181 := WFm.kd hM (i)
                exact LP88 _ (by omega)
              · refine x_iload C 0 rfl dX12_whatIs_77 ?_
                refine x_goto C 88 (by decide) dX12_whatIs_79 ?_
                exact LP88 _ (by omega)
          refine x_if_ne C 63 (by decide) (by omega) dX12_whatIs_55 (fun c_55 => ?_) (fun c_55 => ?_)
          · refine x_bipush C (10) (by decide) dX12_whatIs_63 ?_
            exact LP65 _ (by omega)
          · refine x_bipush C (8) (by decide) dX12_whatIs_58 ?_
            refine x_goto C 65 (by decide) dX12_whatIs_60 ?_
            exact LP65 _ (by omega)
      exact LP52 ((10 - (0)) + 1) (0) (mgr) (1) _ _ (by omega) (by omega) (by omega) (rfl)
    · refine x_iload C 0 rfl dX12_whatIs_39 ?_
      exact hret _ _ _ _ dX12_whatIs_41 rfl ⟨(by by_cases hq : (0 ≤ i ∧ i ≤ mn - 1) ∧ 0 ≤ w ∧ w ≤ 1; (unfold q_whatIs; rw [if_pos (show q_one (Lc mh mn mdy mkd mfg mag mpo mwy) i ∧ 0 ≤ w ∧ w ≤ 1 from hq)]; unfold q_wr; omega); (unfold q_whatIs; rw [if_neg (show ¬ (q_one (Lc mh mn mdy mkd mfg mag mpo mwy) i ∧ 0 ≤ w ∧ w ≤ 1) from hq)]; omega)), Wk.mk⟩
  refine x_ifeq_bz C 31 (by decide) dX12_whatIs_10 (fun c_10 => ?_) (fun c_10 => ?_)
  · refine x_iconst (v := 0) C dX12_whatIs_31 ?_
    exact LP32 _ (by omega)
  · refine x_iload_n C 3 rfl rfl dX12_whatIs_13 ?_
    refine x_i2l C (by omega) dX12_whatIs_14 ?_
    refine x_lconst C 0 rfl dX12_whatIs_15 ?_
    refine x_lconst C 1 rfl dX12_whatIs_16 ?_
    refine x_S_I C (As := [.long (jN (w)), .long (jN (0)), .long (jN (1))]) (rest := []) 3 gX12_whatIs_X12_in (c_X12_in _ _ (WM X.γ a mh mn mkd mfg mag mpo mwy mdy mhw mkk mkf mrs mrm mrw 0 0 mgr mwa mre mpl mib msn mpn mlo mtl mke mim mhi mp0 mtk mki mun msd mbe) (w) (0) (1) (by omega) (by omega) (by omega)) rfl ok_X12_in rfl rfl rfl rfl dX12_whatIs_17 (fun r w1 hp => ?_)
    obtain ⟨rfl, rfl⟩ := hp
    refine x_ifeq_bz C 31 (by decide) dX12_whatIs_20 (fun c_20 => ?_) (fun c_20 => ?_)
    · refine x_iconst (v := 0) C dX12_whatIs_31 ?_
      exact LP32 _ (by omega)
    · refine x_aload_n C 0 rfl rfl dX12_whatIs_23 ?_
      refine x_iload_n C 1 rfl rfl dX12_whatIs_24 ?_
      refine x_V_I C (As := [.int (iN (d))]) (rest := []) 1 0 rfl rfl gX12_whatIs_X12_wrongRow rfl (c_X12_wrongRow _ _ a mh mn mkd mfg mag mpo mwy mdy mhw mkk mkf mrs mrm mrw 0 0 mgr mwa mre mpl mib msn mpn mlo mtl mke mim mhi mp0 mtk mki mun msd mbe hM (d) (by omega)) rfl ok_X12_wrongRow rfl rfl rfl rfl dX12_whatIs_25 (fun r w1 hp => ?_)
      obtain ⟨rfl, rfl⟩ := hp
      show Wx X 0 0 (WM X.γ a mh mn mkd mfg mag mpo mwy mdy mhw mkk mkf mrs mrm mrw 0 0 mgr mwa mre mpl mib msn mpn mlo mtl mke mim mhi mp0 mtk mki mun msd mbe) 28 [(0, .ref (a 0)), (1, .int (iN (d))), (2, .int (iN (i))), (3, .int (iN (w)))] [.int (iN (if 0 ≤ d ∧ d ≤ 7 then (if mhw d = 0 then -11 else if mhw d = 2 then 0 else -12) else -1))]
      refine x_goto C 32 (by decide) dX12_whatIs_28 ?_
      exact LP32 _ (by omega)
end HAGE
