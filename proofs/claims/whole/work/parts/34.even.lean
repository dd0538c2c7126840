section HEVE
/-- the greatest rise, one put at c -/
def gz (C : Ct) (i c : Int) : Int := mxz (Ct.s (Ct.set_po C (upz (Ct.po C) i c))) 14
def evb (C : Ct) (i b0 : Int) : Nat → Int
  | 0 => b0
  | k + 1 => if gz C i (k : Int) < evb C i b0 k then gz C i (k : Int) else evb C i b0 k
def evi (C : Ct) (i b0 i0 : Int) : Nat → Int
  | 0 => i0
  | k + 1 => if gz C i (k : Int) < evb C i b0 k then 100 * i + (k : Int) else evi C i b0 i0 k
def evB (C : Ct) : Nat → Int
  | 0 => mxz (Ct.s C) 14
  | m + 1 => evb C (m : Int) (evB C m) 15
def evI (C : Ct) : Nat → Int
  | 0 => -4
  | m + 1 => evi C (m : Int) (evB C m) (evI C m) 15
theorem evb_b {C : Ct} (hW : WFc C) (i : Int) {b0 : Int} (hb : 0 ≤ b0 ∧ b0 ≤ 20) : ∀ k, k ≤ 15 → 0 ≤ evb C i b0 k ∧ evb C i b0 k ≤ 20
  | 0, _ => hb
  | k + 1, h => by
    have h1 := evb_b hW i hb k (by omega)
    have h2 : 0 ≤ gz C i (k : Int) ∧ gz C i (k : Int) ≤ 20 := mxz_b (WFc.s (hW.posn (bd_upz hW.po (by omega)))) 14
    simp only [evb]
    split <;> omega
theorem evB_b {C : Ct} (hW : WFc C) : ∀ m, 0 ≤ evB C m ∧ evB C m ≤ 20
  | 0 => mxz_b (WFc.s hW) 14
  | m + 1 => evb_b hW (m : Int) (evB_b hW m) 15 (by omega)
def q_even (C : Ct) : Int := evI C (Ct.n C).toNat
theorem in_X12_even_X12 : ∀ w ∈ u_ws RX12 TX12 34, w ∈ wsX12_even := by decide +kernel
theorem ok_X12_even : okY yX12_even 0 := by decide +kernel
def rmX12_even : Room := { frames := 4, cells := 0, slots := 0, locals := 89 }
set_option maxRecDepth 100000 in
set_option maxHeartbeats 400000 in
theorem c_X12_even (l : Launch) (γ : GX) (a : Nat → Nat) (mh : Int → Int) (mn : Int) (mkd : Int → Int) (mfg : Int → Int) (mag : Int → Int) (mpo : Int → Int) (mwy : Int → Int) (mdy : Int) (mhw : Int → Int) (mkk : Int → Int) (mkf : Int → Int) (mrs : Int → Int) (mrm : Int → Int) (mrw : Int → Int) (mth : Int) (mgr : Int → Int) (mwa : Int → Int) (mre : Int) (mpl : Int) (mib : Int) (msn : Int) (mpn : Int → Int) (mlo : Int → Int) (mtl : Int → Int) (mke : Int → Int) (mim : Int → Int) (mhi : Int) (mp0 : Int) (mtk : Int) (mki : Value) (mun : Int → Int) (msd : Int) (mbe : Int → Int) (hM : WFm mn mh mkd mfg mag mpo mwy mhw mkk mkf mrs mrm mrw) : MI l γ yX12_even wsX12_even rmX12_even [.ref (a 0)] (WM γ a mh mn mkd mfg mag mpo mwy mdy mhw mkk mkf mrs mrm mrw mth 0 mgr mwa mre mpl mib msn mpn mlo mtl mke mim mhi mp0 mtk mki mun msd mbe) (fun r_ w_ => r_ = q_even (Lc mh mn mdy mkd mfg mag mpo mwy) ∧ Wk γ a mh mn mkd mfg mag mpo mwy mdy mhw mkk mkf mrs mrm mrw 0 mim mhi w_) 0 0 := by
  refine MI.of (cc := cX12_even) (maxL := 7) (rt := .int) RX12 rfl (by decide +kernel) rfl (Nat.le_of_ble_eq_true rfl) ?_
  intro X C hγ hl hnm hret
  subst hγ
  have hMn := WFm.n hM
  show Wx X 0 0 (WM X.γ a mh mn mkd mfg mag mpo mwy mdy mhw mkk mkf mrs mrm mrw mth 0 mgr mwa mre mpl mib msn mpn mlo mtl mke mim mhi mp0 mtk mki mun msd mbe) 0 [(0, .ref (a 0))] []
  refine x_aload_n C 0 rfl rfl dX12_even_0 ?_
  refine x_iconst (v := 0) C dX12_even_1 ?_
  refine x_put C in_X12_even_X12 tyX12 tyX12_ok nmX12 0 rfl rfl 14 (by decide) (List.mem_of_getElem? (i := 1) rfl) rfl rfl rfl rfl rfl (Nat.le_of_ble_eq_true rfl) (WM X.γ a mh mn mkd mfg mag mpo mwy mdy mhw mkk mkf mrs mrm mrw 0 0 mgr mwa mre mpl mib msn mpn mlo mtl mke mim mhi mp0 mtk mki mun msd mbe) rfl dX12_even_2 ?_
  refine x_bipush C (-4) (by decide) dX12_even_5 ?_
  refine x_istore_n C [(1, .int (iN (-4))), (0, .ref (a 0))] rfl (by decide) rfl dX12_even_7 ?_
  refine x_aload_n C 1 rfl rfl dX12_even_8 ?_
  refine x_V_I C (As := []) (rest := []) 0 0 rfl rfl gX12_even_X12_greatestRise rfl (c_X12_greatestRise _ _ a mh mn mkd mfg mag mpo mwy mdy mhw mkk mkf mrs mrm mrw 0 mgr mwa mre mpl mib msn mpn mlo mtl mke mim mhi mp0 mtk mki mun msd mbe hM) rfl ok_X12_greatestRise rfl rfl rfl rfl dX12_even_9 (fun r w1 hp => ?_)
  obtain ⟨rfl, rfl⟩ := hp
  show Wx X 0 0 (WM X.γ a mh mn mkd mfg mag mpo mwy mdy mhw mkk mkf mrs mrm mrw 0 0 (Ct.g (Lc mh mn mdy mkd mfg mag mpo mwy)) mwa mre mpl mib msn mpn mlo mtl mke mim mhi mp0 mtk mki mun msd mbe) 12 [(1, .int (iN (-4))), (0, .ref (a 0))] [.int (iN (mxz (Ct.s (Lc mh mn mdy mkd mfg mag mpo mwy)) 14))]
  have b125 := mxz_b (WFc.s (WFm.L hM mdy)) 14
  refine x_istore_n C [(2, .int (iN (mxz (Ct.s (Lc mh mn mdy mkd mfg mag mpo mwy)) 14))), (1, .int (iN (-4))), (0, .ref (a 0))] rfl (by decide) rfl dX12_even_12 ?_
  refine x_iconst (v := 0) C dX12_even_13 ?_
  refine x_istore_n C [(3, .int (iN (0))), (2, .int (iN (mxz (Ct.s (Lc mh mn mdy mkd mfg mag mpo mwy)) 14))), (1, .int (iN (-4))), (0, .ref (a 0))] rfl (by decide) rfl dX12_even_14 ?_
  have LP15 : ∀ (f : Nat) (m : Nat) (G : Int → Int) (v3_15 : Int) (v2_15 : Int) (v1_15 : Int), (mn.toNat - m < f) → (m ≤ mn.toNat) → (((m : Int)) = v3_15) → (v2_15 = (evB (Lc mh mn mdy mkd mfg mag mpo mwy) m)) → (v1_15 = (evI (Lc mh mn mdy mkd mfg mag mpo mwy) m)) → Wx X 0 0 (WM X.γ a mh mn mkd mfg mag mpo mwy mdy mhw mkk mkf mrs mrm mrw 0 0 G mwa mre mpl mib msn mpn mlo mtl mke mim mhi mp0 mtk mki mun msd mbe) 15 [(3, .int (iN (v3_15))), (2, .int (iN (v2_15))), (1, .int (iN (v1_15))), (0, .ref (a 0))] [] := by
    intro f
    induction f with
    | zero => intro m G v3_15 v2_15 v1_15 hf; exact absurd hf (Nat.not_lt_zero _)
    | succ f ih15 =>
      intro m G v3_15 v2_15 v1_15 hf hm e3_15 e2_15 e1_15
      subst e3_15
      have bB := evB_b (WFm.L hM mdy) m
      refine x_iload_n C 0 rfl rfl dX12_even_15 ?_
      refine x_aload_n C 3 rfl rfl dX12_even_16 ?_
      refine x_get C in_X12_even_X12 0 rfl rfl 1 (by decide) (List.mem_of_getElem? (i := 2) rfl) rfl (v := .int (iN (mn))) rfl dX12_even_17 ?_
      refine x_icmp_ge C 106 (by decide) (by omega) dX12_even_20 (fun c_20 => ?_) (fun c_20 => ?_)
      · refine x_iload_n C 2 rfl rfl dX12_even_106 ?_
        exact hret _ _ _ _ dX12_even_107 rfl ⟨(by have hz : m = mn.toNat := (by omega); subst hz; exact e1_15), Wk.mk⟩
      · refine x_aload_n C 3 rfl rfl dX12_even_23 ?_
        refine x_get C in_X12_even_X12 0 rfl rfl 5 (by decide) (List.mem_of_getElem? (i := 3) rfl) rfl (v := .ref (a 5)) rfl dX12_even_24 ?_
        refine x_iload_n C 0 rfl rfl dX12_even_27 ?_
        refine x_iaload C (f := mpo) 5 rfl (by omega) rfl dX12_even_28 ?_
        have b126 := WFm.po hM ((m : Int))
        refine x_istore C [(4, .int (iN (mpo (m : Int)))), (3, .int (iN ((m : Int)))), (2, .int (iN (v2_15))), (1, .int (iN (v1_15))), (0, .ref (a 0))] (by decide) rfl dX12_even_29 ?_
        refine x_iconst (v := 0) C dX12_even_31 ?_
        refine x_istore C [(5, .int (iN (0))), (4, .int (iN (mpo (m : Int)))), (3, .int (iN ((m : Int)))), (2, .int (iN (v2_15))), (1, .int (iN (v1_15))), (0, .ref (a 0))] (by decide) rfl dX12_even_32 ?_
        have LP34 : ∀ (f : Nat) (k : Nat) (H : Int → Int) (x : Int) (v5_34 : Int) (v2_34 : Int) (v1_34 : Int), (15 - k < f) → (k ≤ 15) → (((k : Int)) = v5_34) → (v2_34 = (evb (Lc mh mn mdy mkd mfg mag mpo mwy) (m : Int) v2_15 k)) → (v1_34 = (evi (Lc mh mn mdy mkd mfg mag mpo mwy) (m : Int) v2_15 v1_15 k)) → Wx X 0 0 (WM X.γ a mh mn mkd mfg mag (upz mpo (m : Int) x) mwy mdy mhw mkk mkf mrs mrm mrw 0 0 H mwa mre mpl mib msn mpn mlo mtl mke mim mhi mp0 mtk mki mun msd mbe) 34 [(5, .int (iN (v5_34))), (4, .int (iN (mpo (m : Int)))), (3, .int (iN ((m : Int)))), (2, .int (iN (v2_34))), (1, .int (iN (v1_34))), (0, .ref (a 0))] [] := by
          intro f
          induction f with
          | zero => intro k H x v5_34 v2_34 v1_34 hf; exact absurd hf (Nat.not_lt_zero _)
          | succ f ih34 =>
            intro k H x v5_34 v2_34 v1_34 hf hk e5_34 e2_34 e1_34
            subst e5_34
            have bb := evb_b (WFm.L hM mdy) (m : Int) (b0 := v2_15) (by omega) k hk
            refine x_iload C 0 rfl dX12_even_34 ?_
            refine x_bipush C (15) (by decide) dX12_even_36 ?_
            refine x_icmp_ge C 92 (by decide) (by omega) dX12_even_38 (fun c_38 => ?_) (fun c_38 => ?_)
            · refine x_aload_n C 5 rfl rfl dX12_even_92 ?_
              refine x_get C in_X12_even_X12 0 rfl rfl 5 (by decide) (List.mem_of_getElem? (i := 3) rfl) rfl (v := .ref (a 5)) rfl dX12_even_93 ?_
              refine x_iload_n C 2 rfl rfl dX12_even_96 ?_
              refine x_iload C 1 rfl dX12_even_97 ?_
              refine x_iastore C (f := (upz mpo (m : Int) x)) 5 rfl (by omega) rfl (WM X.γ a mh mn mkd mfg mag (upz (upz mpo (m : Int) x) (m : Int) (mpo (m : Int))) mwy mdy mhw mkk mkf mrs mrm mrw 0 0 H mwa mre mpl mib msn mpn mlo mtl mke mim mhi mp0 mtk mki mun msd mbe) rfl dX12_even_99 ?_
              refine Wx.eqW (ws' := (WM X.γ a mh mn mkd mfg mag mpo mwy mdy mhw mkk mkf mrs mrm mrw 0 0 H mwa mre mpl mib msn mpn mlo mtl mke mim mhi mp0 mtk mki mun msd mbe)) (by rw [upz_upz, upz_id]) ?_
              refine x_iinc C 2 [(3, .int (iN ((m : Int) + 1))), (5, .int (iN ((k : Int)))), (4, .int (iN (mpo (m : Int)))), (2, .int (iN (v2_34))), (1, .int (iN (v1_34))), (0, .ref (a 0))] rfl rfl (by decide) rfl dX12_even_100 ?_
              refine x_goto C 15 (by decide) dX12_even_103 ?_
              refine Wx.subL [0, 3, 4, 5] rfl ?_
              exact ih15 (m + 1) (H) _ _ _ (by omega) (by omega) (by omega) (by have hz : k = 15 := (by omega); subst hz; show _ = evb (Lc mh mn mdy mkd mfg mag mpo mwy) (m : Int) (evB (Lc mh mn mdy mkd mfg mag mpo mwy) m) 15; rw [← e2_15, e2_34]) (by have hz : k = 15 := (by omega); subst hz; show _ = evi (Lc mh mn mdy mkd mfg mag mpo mwy) (m : Int) (evB (Lc mh mn mdy mkd mfg mag mpo mwy) m) (evI (Lc mh mn mdy mkd mfg mag mpo mwy) m) 15; rw [← e1_15, ← e2_15, e1_34])
            · refine x_aload_n C 5 rfl rfl dX12_even_41 ?_
              refine x_get C in_X12_even_X12 0 rfl rfl 5 (by decide) (List.mem_of_getElem? (i := 3) rfl) rfl (v := .ref (a 5)) rfl dX12_even_42 ?_
              refine x_iload_n C 2 rfl rfl dX12_even_45 ?_
              refine x_iload C 0 rfl dX12_even_46 ?_
              refine x_iastore C (f := (upz mpo (m : Int) x)) 5 rfl (by omega) rfl (WM X.γ a mh mn mkd mfg mag (upz (upz mpo (m : Int) x) (m : Int) (k : Int)) mwy mdy mhw mkk mkf mrs mrm mrw 0 0 H mwa mre mpl mib msn mpn mlo mtl mke mim mhi mp0 mtk mki mun msd mbe) rfl dX12_even_48 ?_
              refine Wx.eqW (ws' := (WM X.γ a mh mn mkd mfg mag (upz mpo (m : Int) (k : Int)) mwy mdy mhw mkk mkf mrs mrm mrw 0 0 H mwa mre mpl mib msn mpn mlo mtl mke mim mhi mp0 mtk mki mun msd mbe)) (by rw [upz_upz]) ?_
              refine x_aload_n C 5 rfl rfl dX12_even_49 ?_
              refine x_V_I C (As := []) (rest := []) 0 0 rfl rfl gX12_even_X12_greatestRise rfl (c_X12_greatestRise _ _ a mh mn mkd mfg mag (upz mpo (m : Int) (k : Int)) mwy mdy mhw mkk mkf mrs mrm mrw 0 H mwa mre mpl mib msn mpn mlo mtl mke mim mhi mp0 mtk mki mun msd mbe (WFm.posn hM (bd_upz (i := (m : Int)) (WFm.po hM) (show 0 ≤ (k : Int) ∧ (k : Int) ≤ 14 by omega)))) rfl ok_X12_greatestRise rfl rfl rfl rfl dX12_even_50 (fun r w1 hp => ?_)
              obtain ⟨rfl, rfl⟩ := hp
              show Wx X 0 0 (WM X.γ a mh mn mkd mfg mag (upz mpo (m : Int) (k : Int)) mwy mdy mhw mkk mkf mrs mrm mrw 0 0 (Ct.g (Lc mh mn mdy mkd mfg mag (upz mpo (m : Int) (k : Int)) mwy)) mwa mre mpl mib msn mpn mlo mtl mke mim mhi mp0 mtk mki mun msd mbe) 53 [(5, .int (iN ((k : Int)))), (4, .int (iN (mpo (m : Int)))), (3, .int (iN ((m : Int)))), (2, .int (iN (v2_34))), (1, .int (iN (v1_34))), (0, .ref (a 0))] [.int (iN (mxz (Ct.s (Lc mh mn mdy mkd mfg mag (upz mpo (m : Int) (k : Int)) mwy)) 14))]
              have b127 := mxz_b (WFc.s (WFm.L (WFm.posn hM (bd_upz (i := (m : Int)) (WFm.po hM) (show 0 ≤ (k : Int) ∧ (k : Int) ≤ 14 by omega))) mdy)) 14
              refine x_istore C [(6, .int (iN (mxz (Ct.s (Lc mh mn mdy mkd mfg mag (upz mpo (m : Int) (k : Int)) mwy)) 14))), (5, .int (iN ((k : Int)))), (4, .int (iN (mpo (m : Int)))), (3, .int (iN ((m : Int)))), (2, .int (iN (v2_34))), (1, .int (iN (v1_34))), (0, .ref (a 0))] (by decide) rfl dX12_even_53 ?_
              refine x_iload C 0 rfl dX12_even_55 ?_
              refine x_iload_n C 4 rfl rfl dX12_even_57 ?_
              have LP72 : ∀ (s0_72 : Int), (s0_72 = (if mxz (Ct.s (Lc mh mn mdy mkd mfg mag (upz mpo (m : Int) (k : Int)) mwy)) 14 < v2_34 then 100 * (m : Int) + (k : Int) else v1_34)) → Wx X 0 0 (WM X.γ a mh mn mkd mfg mag (upz mpo (m : Int) (k : Int)) mwy mdy mhw mkk mkf mrs mrm mrw 0 0 (Ct.g (Lc mh mn mdy mkd mfg mag (upz mpo (m : Int) (k : Int)) mwy)) mwa mre mpl mib msn mpn mlo mtl mke mim mhi mp0 mtk mki mun msd mbe) 72 [(6, .int (iN (mxz (Ct.s (Lc mh mn mdy mkd mfg mag (upz mpo (m : Int) (k : Int)) mwy)) 14))), (5, .int (iN ((k : Int)))), (4, .int (iN (mpo (m : Int)))), (3, .int (iN ((m : Int)))), (2, .int (iN (v2_34))), (1, .int (iN (v1_34))), (0, .ref (a 0))] [.int (iN (s0_72))] := by
                intro s0_72 es0_72
                refine x_istore_n C [(1, .int (iN (s0_72))), (6, .int (iN (mxz (Ct.s (Lc mh mn mdy mkd mfg mag (upz mpo (m : Int) (k : Int)) mwy)) 14))), (5, .int (iN ((k : Int)))), (4, .int (iN (mpo (m : Int)))), (3, .int (iN ((m : Int)))), (2, .int (iN (v2_34))), (0, .ref (a 0))] rfl (by decide) rfl dX12_even_72 ?_
                refine x_iload C 1 rfl dX12_even_73 ?_
                refine x_iload_n C 5 rfl rfl dX12_even_75 ?_
                have LP85 : ∀ (s0_85 : Int), (s0_85 = (if mxz (Ct.s (Lc mh mn mdy mkd mfg mag (upz mpo (m : Int) (k : Int)) mwy)) 14 < v2_34 then mxz (Ct.s (Lc mh mn mdy mkd mfg mag (upz mpo (m : Int) (k : Int)) mwy)) 14 else v2_34)) → Wx X 0 0 (WM X.γ a mh mn mkd mfg mag (upz mpo (m : Int) (k : Int)) mwy mdy mhw mkk mkf mrs mrm mrw 0 0 (Ct.g (Lc mh mn mdy mkd mfg mag (upz mpo (m : Int) (k : Int)) mwy)) mwa mre mpl mib msn mpn mlo mtl mke mim mhi mp0 mtk mki mun msd mbe) 85 [(1, .int (iN (s0_72))), (6, .int (iN (mxz (Ct.s (Lc mh mn mdy mkd mfg mag (upz mpo (m : Int) (k : Int)) mwy)) 14))), (5, .int (iN ((k : Int)))), (4, .int (iN (mpo (m : Int)))), (3, .int (iN ((m : Int)))), (2, .int (iN (v2_34))), (0, .ref (a 0))] [.int (iN (s0_85))] := by
                  intro s0_85 es0_85
                  refine x_istore_n C [(2, .int (iN (s0_85))), (1, .int (iN (s0_72))), (6, .int (iN (mxz (Ct.s (Lc mh mn mdy mkd mfg mag (upz mpo (m : Int) (k : Int)) mwy)) 14))), (5, .int (iN ((k : Int)))), (4, .int (iN (mpo (m : Int)))), (3, .int (iN ((m : Int)))), (0, .ref (a 0))] rfl (by decide) rfl dX12_even_85 ?_
                  refine x_iinc C 3 [(5, .int (iN ((k : Int) + 1))), (2, .int (iN (s0_85))), (1, .int (iN (s0_72))), (6, .int (iN (mxz (Ct.s (Lc mh mn mdy mkd mfg mag (upz mpo (m : Int) (k : Int)) mwy)) 14))), (4, .int (iN (mpo (m : Int)))), (3, .int (iN ((m : Int)))), (0, .ref (a 0))] rfl rfl (by decide) rfl dX12_even_86 ?_
                  refine x_goto C 34 (by decide) dX12_even_89 ?_
                  refine Wx.subL [0, 4, 5, 1, 2, 6] rfl ?_
                  exact ih34 (k + 1) (Ct.g (Lc mh mn mdy mkd mfg mag (upz mpo (m : Int) (k : Int)) mwy)) ((k : Int)) _ _ _ (by omega) (by omega) (by omega) (by have hsw : gz (Lc mh mn mdy mkd mfg mag mpo mwy) (m : Int) (k : Int) = mxz (Ct.s (Lc mh mn mdy mkd mfg mag (upz mpo (m : Int) (k : Int)) mwy)) 14 := rfl; simp only [evb]; rw [es0_85, ← e2_34, hsw]) (by have hsw : gz (Lc mh mn mdy mkd mfg mag mpo mwy) (m : Int) (k : Int) = mxz (Ct.s (Lc mh mn mdy mkd mfg mag (upz mpo (m : Int) (k : Int)) mwy)) 14 := rfl; simp only [evi]; rw [es0_72, ← e1_34, ← e2_34, hsw])
                refine x_icmp_ge C 84 (by decide) (by omega) dX12_even_76 (fun c_76 => ?_) (fun c_76 => ?_)
                · refine x_iload_n C 5 rfl rfl dX12_even_84 ?_
                  exact LP85 _ (by omega)
                · refine x_iload C 1 rfl dX12_even_79 ?_
                  refine x_goto C 85 (by decide) dX12_even_81 ?_
                  exact LP85 _ (by omega)
              refine x_icmp_ge C 71 (by decide) (by omega) dX12_even_58 (fun c_58 => ?_) (fun c_58 => ?_)
              · refine x_iload_n C 5 rfl rfl dX12_even_71 ?_
                exact LP72 _ (by omega)
              · refine x_bipush C (100) (by decide) dX12_even_61 ?_
                refine x_iload_n C 3 rfl rfl dX12_even_63 ?_
                refine x_imul C dX12_even_64 ?_
                refine x_iload C 1 rfl dX12_even_65 ?_
                refine x_iadd C dX12_even_67 ?_
                refine x_goto C 72 (by decide) dX12_even_68 ?_
                exact LP72 _ (by omega)
        refine Wx.eqW (ws' := (WM X.γ a mh mn mkd mfg mag (upz mpo (m : Int) (mpo (m : Int))) mwy mdy mhw mkk mkf mrs mrm mrw 0 0 G mwa mre mpl mib msn mpn mlo mtl mke mim mhi mp0 mtk mki mun msd mbe)) (by rw [upz_id]) ?_
        exact LP34 ((15 - (0)) + 1) (0) (G) (mpo (m : Int)) _ _ _ (by omega) (by omega) (by omega) (rfl) (rfl)
  exact LP15 ((mn.toNat - (0)) + 1) (0) (Ct.g (Lc mh mn mdy mkd mfg mag mpo mwy)) _ _ _ (by omega) (by omega) (by omega) (rfl) (rfl)
end HEVE
