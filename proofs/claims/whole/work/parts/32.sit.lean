section HSIT
theorem upz_upz {α : Type} (f : Int → α) (i : Int) (x y : α) : upz (upz f i x) i y = upz f i y := by
  funext t
  unfold upz
  split <;> rfl
/-- all the water, one put at c -/
def swz (C : Ct) (i c : Int) : Int := Ct.allW (Ct.set_po C (upz (Ct.po C) i c))
/-- the least water so, of the k first cells -/
def siw (C : Ct) (i : Int) : Nat → Int
  | 0 => -1
  | k + 1 => if siw C i k < 0 ∨ swz C i (k : Int) < siw C i k then swz C i (k : Int) else siw C i k
/-- and its cell -/
def sic (C : Ct) (i : Int) : Nat → Int
  | 0 => 0
  | k + 1 => if siw C i k < 0 ∨ swz C i (k : Int) < siw C i k then (k : Int) else sic C i k
def q_sit (C : Ct) (i w : Int) : Int := if q_one C i ∧ 0 ≤ w ∧ w ≤ 1 then (if w = 0 then sic C i 15 else siw C i 15) else -1
theorem siw_b {C : Ct} (hW : WFc C) (i : Int) : ∀ k, k ≤ 15 → -1 ≤ siw C i k ∧ siw C i k < 2147483648
  | 0, _ => by simp [siw]
  | k + 1, h => by
    have h1 := siw_b hW i k (by omega)
    have h2 : 0 ≤ swz C i (k : Int) ∧ swz C i (k : Int) < 2147483648 := by
      have hp : WFc (Ct.set_po C (upz (Ct.po C) i (k : Int))) := hW.posn (bd_upz hW.po (by omega))
      have := WFc.allW hp
      unfold swz
      omega
    simp only [siw]
    split <;> omega
theorem in_X12_sit_X12 : ∀ w ∈ u_ws RX12 TX12 34, w ∈ wsX12_sit := by decide +kernel
theorem ok_X12_sit : okY yX12_sit 2 := by decide +kernel
def rmX12_sit : Room := { frames := 4, cells := 0, slots := 0, locals := 92 }
set_option maxRecDepth 100000 in
set_option maxHeartbeats 400000 in
theorem c_X12_sit (l : Launch) (γ : GX) (a : Nat → Nat) (mh : Int → Int) (mn : Int) (mkd : Int → Int) (mfg : Int → Int) (mag : Int → Int) (mpo : Int → Int) (mwy : Int → Int) (mdy : Int) (mhw : Int → Int) (mkk : Int → Int) (mkf : Int → Int) (mrs : Int → Int) (mrm : Int → Int) (mrw : Int → Int) (mth : Int) (mgr : Int → Int) (mwa : Int → Int) (mre : Int) (mpl : Int) (mib : Int) (msn : Int) (mpn : Int → Int) (mlo : Int → Int) (mtl : Int → Int) (mke : Int → Int) (mim : Int → Int) (mhi : Int) (mp0 : Int) (mtk : Int) (mki : Value) (mun : Int → Int) (msd : Int) (mbe : Int → Int) (hM : WFm mn mh mkd mfg mag mpo mwy mhw mkk mkf mrs mrm mrw) (i : Int) (w : Int) (h0_ : -2147483648 ≤ i ∧ i < 2147483648) (h1_ : -2147483648 ≤ w ∧ w < 2147483648) : MI l γ yX12_sit wsX12_sit rmX12_sit [.ref (a 0), .int (iN (i)), .int (iN (w))] (WM γ a mh mn mkd mfg mag mpo mwy mdy mhw mkk mkf mrs mrm mrw mth 0 mgr mwa mre mpl mib msn mpn mlo mtl mke mim mhi mp0 mtk mki mun msd mbe) (fun r_ w_ => r_ = q_sit (Lc mh mn mdy mkd mfg mag mpo mwy) i w ∧ Wk γ a mh mn mkd mfg mag mpo mwy mdy mhw mkk mkf mrs mrm mrw 0 mim mhi w_) 0 0 := by
  refine MI.of (cc := cX12_sit) (maxL := 8) (rt := .int) RX12 rfl (by decide +kernel) rfl (Nat.le_of_ble_eq_true rfl) ?_
  intro X C hγ hl hnm hret
  subst hγ
  have hMn := WFm.n hM
  show Wx X 0 0 (WM X.γ a mh mn mkd mfg mag mpo mwy mdy mhw mkk mkf mrs mrm mrw mth 0 mgr mwa mre mpl mib msn mpn mlo mtl mke mim mhi mp0 mtk mki mun msd mbe) 0 [(0, .ref (a 0)), (1, .int (iN (i))), (2, .int (iN (w)))] []
  refine x_aload_n C 0 rfl rfl dX12_sit_0 ?_
  refine x_iconst (v := 0) C dX12_sit_1 ?_
  refine x_put C in_X12_sit_X12 tyX12 tyX12_ok nmX12 0 rfl rfl 14 (by decide) (List.mem_of_getElem? (i := 1) rfl) rfl rfl rfl rfl rfl (Nat.le_of_ble_eq_true rfl) (WM X.γ a mh mn mkd mfg mag mpo mwy mdy mhw mkk mkf mrs mrm mrw 0 0 mgr mwa mre mpl mib msn mpn mlo mtl mke mim mhi mp0 mtk mki mun msd mbe) rfl dX12_sit_2 ?_
  refine x_aload_n C 0 rfl rfl dX12_sit_5 ?_
  refine x_iload_n C 1 rfl rfl dX12_sit_6 ?_
  refine x_V_I C (As := [.int (iN (i))]) (rest := []) 1 0 rfl rfl gX12_sit_X12_isOne rfl (c_X12_isOne _ _ a mh mn mkd mfg mag mpo mwy mdy mhw mkk mkf mrs mrm mrw 0 0 mgr mwa mre mpl mib msn mpn mlo mtl mke mim mhi mp0 mtk mki mun msd mbe hM (i) (by omega)) rfl ok_X12_isOne rfl rfl rfl rfl dX12_sit_7 (fun r w1 hp => ?_)
  obtain ⟨rfl, rfl⟩ := hp
  refine x_ifeq_bz C 23 (by decide) dX12_sit_10 (fun c_10 => ?_) (fun c_10 => ?_)
  · refine x_iconst (v := 0) C dX12_sit_23 ?_
    exact hret _ _ _ _ dX12_sit_24 rfl ⟨(by unfold q_sit; rw [if_neg (show ¬ (q_one (Lc mh mn mdy mkd mfg mag mpo mwy) i ∧ 0 ≤ w ∧ w ≤ 1) from (show ¬ ((0 ≤ i ∧ i ≤ mn - 1) ∧ 0 ≤ w ∧ w ≤ 1) by omega))]), Wk.mk⟩
  · refine x_iload_n C 2 rfl rfl dX12_sit_13 ?_
    refine x_i2l C (by omega) dX12_sit_14 ?_
    refine x_lconst C 0 rfl dX12_sit_15 ?_
    refine x_lconst C 1 rfl dX12_sit_16 ?_
    refine x_S_I C (As := [.long (jN (w)), .long (jN (0)), .long (jN (1))]) (rest := []) 3 gX12_sit_X12_in (c_X12_in _ _ (WM X.γ a mh mn mkd mfg mag mpo mwy mdy mhw mkk mkf mrs mrm mrw 0 0 mgr mwa mre mpl mib msn mpn mlo mtl mke mim mhi mp0 mtk mki mun msd mbe) (w) (0) (1) (by omega) (by omega) (by omega)) rfl ok_X12_in rfl rfl rfl rfl dX12_sit_17 (fun r w1 hp => ?_)
    obtain ⟨rfl, rfl⟩ := hp
    refine x_ifne_bz C 25 (by decide) dX12_sit_20 (fun c_20 => ?_) (fun c_20 => ?_)
    · refine x_iconst (v := 0) C dX12_sit_25 ?_
      refine x_istore_n C [(3, .int (iN (0))), (0, .ref (a 0)), (1, .int (iN (i))), (2, .int (iN (w)))] rfl (by decide) rfl dX12_sit_26 ?_
      refine x_iconst (v := 0) C dX12_sit_27 ?_
      refine x_istore C [(4, .int (iN (-1))), (3, .int (iN (0))), (0, .ref (a 0)), (1, .int (iN (i))), (2, .int (iN (w)))] (by decide) rfl dX12_sit_28 ?_
      refine x_aload_n C 2 rfl rfl dX12_sit_30 ?_
      refine x_get C in_X12_sit_X12 0 rfl rfl 5 (by decide) (List.mem_of_getElem? (i := 2) rfl) rfl (v := .ref (a 5)) rfl dX12_sit_31 ?_
      refine x_iload_n C 3 rfl rfl dX12_sit_34 ?_
      refine x_iaload C (f := mpo) 5 rfl (by omega) rfl dX12_sit_35 ?_
      have b120 := WFm.po hM (i)
      refine x_istore C [(5, .int (iN (mpo i))), (4, .int (iN (-1))), (3, .int (iN (0))), (0, .ref (a 0)), (1, .int (iN (i))), (2, .int (iN (w)))] (by decide) rfl dX12_sit_36 ?_
      refine x_iconst (v := 0) C dX12_sit_38 ?_
      refine x_istore C [(6, .int (iN (0))), (5, .int (iN (mpo i))), (4, .int (iN (-1))), (3, .int (iN (0))), (0, .ref (a 0)), (1, .int (iN (i))), (2, .int (iN (w)))] (by decide) rfl dX12_sit_39 ?_
      have LP41 : ∀ (f : Nat) (k : Nat) (G : Int → Int) (WA : Int → Int) (x : Int) (v6_41 : Int) (v4_41 : Int) (v3_41 : Int), (15 - k < f) → (k ≤ 15) → (True) → (((k : Int)) = v6_41) → (v4_41 = (siw (Lc mh mn mdy mkd mfg mag mpo mwy) i k)) → (v3_41 = (sic (Lc mh mn mdy mkd mfg mag mpo mwy) i k)) → Wx X 0 0 (WM X.γ a mh mn mkd mfg mag (upz mpo i x) mwy mdy mhw mkk mkf mrs mrm mrw 0 0 G WA mre mpl mib msn mpn mlo mtl mke mim mhi mp0 mtk mki mun msd mbe) 41 [(6, .int (iN (v6_41))), (5, .int (iN (mpo i))), (4, .int (iN (v4_41))), (3, .int (iN (v3_41))), (0, .ref (a 0)), (1, .int (iN (i))), (2, .int (iN (w)))] [] := by
        intro f
        induction f with
        | zero => intro k G WA x v6_41 v4_41 v3_41 hf; exact absurd hf (Nat.not_lt_zero _)
        | succ f ih41 =>
          intro k G WA x v6_41 v4_41 v3_41 hf hk hx e6_41 e4_41 e3_41
          subst e6_41
          have bw4 := siw_b (WFm.L hM mdy) i k hk
          refine x_iload C 0 rfl dX12_sit_41 ?_
          refine x_bipush C (15) (by decide) dX12_sit_43 ?_
          refine x_icmp_ge C 108 (by decide) (by omega) dX12_sit_45 (fun c_45 => ?_) (fun c_45 => ?_)
          · refine x_aload_n C 4 rfl rfl dX12_sit_108 ?_
            refine x_get C in_X12_sit_X12 0 rfl rfl 5 (by decide) (List.mem_of_getElem? (i := 2) rfl) rfl (v := .ref (a 5)) rfl dX12_sit_109 ?_
            refine x_iload_n C 5 rfl rfl dX12_sit_112 ?_
            refine x_iload C 1 rfl dX12_sit_113 ?_
            refine x_iastore C (f := (upz mpo i x)) 5 rfl (by omega) rfl (WM X.γ a mh mn mkd mfg mag (upz (upz mpo i x) i (mpo i)) mwy mdy mhw mkk mkf mrs mrm mrw 0 0 G WA mre mpl mib msn mpn mlo mtl mke mim mhi mp0 mtk mki mun msd mbe) rfl dX12_sit_115 ?_
            refine Wx.eqW (ws' := (WM X.γ a mh mn mkd mfg mag mpo mwy mdy mhw mkk mkf mrs mrm mrw 0 0 G WA mre mpl mib msn mpn mlo mtl mke mim mhi mp0 mtk mki mun msd mbe)) (by rw [upz_upz, upz_id]) ?_
            refine x_iload_n C 6 rfl rfl dX12_sit_116 ?_
            refine x_if_ne C 124 (by decide) (by omega) dX12_sit_117 (fun c_117 => ?_) (fun c_117 => ?_)
            · refine x_iload C 2 rfl dX12_sit_124 ?_
              exact hret _ _ _ _ dX12_sit_126 rfl ⟨(by have hz : k = 15 := (by omega); subst hz; unfold q_sit; rw [if_pos (show q_one (Lc mh mn mdy mkd mfg mag mpo mwy) i ∧ 0 ≤ w ∧ w ≤ 1 from (show (0 ≤ i ∧ i ≤ mn - 1) ∧ 0 ≤ w ∧ w ≤ 1 by omega)), if_neg (show ¬ w = 0 by omega)]; exact e4_41), Wk.mk⟩
            · refine x_iload_n C 3 rfl rfl dX12_sit_120 ?_
              refine x_goto C 126 (by decide) dX12_sit_121 ?_
              exact hret _ _ _ _ dX12_sit_126 rfl ⟨(by have hz : k = 15 := (by omega); subst hz; unfold q_sit; rw [if_pos (show q_one (Lc mh mn mdy mkd mfg mag mpo mwy) i ∧ 0 ≤ w ∧ w ≤ 1 from (show (0 ≤ i ∧ i ≤ mn - 1) ∧ 0 ≤ w ∧ w ≤ 1 by omega)), if_pos (show w = 0 by omega)]; exact e3_41), Wk.mk⟩
          · refine x_aload_n C 4 rfl rfl dX12_sit_48 ?_
            refine x_get C in_X12_sit_X12 0 rfl rfl 5 (by decide) (List.mem_of_getElem? (i := 2) rfl) rfl (v := .ref (a 5)) rfl dX12_sit_49 ?_
            refine x_iload_n C 5 rfl rfl dX12_sit_52 ?_
            refine x_iload C 0 rfl dX12_sit_53 ?_
            refine x_iastore C (f := (upz mpo i x)) 5 rfl (by omega) rfl (WM X.γ a mh mn mkd mfg mag (upz (upz mpo i x) i (k : Int)) mwy mdy mhw mkk mkf mrs mrm mrw 0 0 G WA mre mpl mib msn mpn mlo mtl mke mim mhi mp0 mtk mki mun msd mbe) rfl dX12_sit_55 ?_
            refine Wx.eqW (ws' := (WM X.γ a mh mn mkd mfg mag (upz mpo i (k : Int)) mwy mdy mhw mkk mkf mrs mrm mrw 0 0 G WA mre mpl mib msn mpn mlo mtl mke mim mhi mp0 mtk mki mun msd mbe)) (by rw [upz_upz]) ?_
            refine x_aload_n C 4 rfl rfl dX12_sit_56 ?_
            refine x_V_I C (As := []) (rest := []) 0 0 rfl rfl gX12_sit_X12_allWater rfl (c_X12_allWater0 _ _ a mh mn mkd mfg mag (upz mpo i (k : Int)) mwy mdy mhw mkk mkf mrs mrm mrw 0 G WA mre mpl mib msn mpn mlo mtl mke mim mhi mp0 mtk mki mun msd mbe (WFm.posn hM (bd_upz (i := i) (WFm.po hM) (show 0 ≤ (k : Int) ∧ (k : Int) ≤ 14 by omega)))) rfl ok_X12_allWater rfl rfl rfl rfl dX12_sit_57 (fun r w1 hp => ?_)
            obtain ⟨rfl, rfl⟩ := hp
            show Wx X 0 0 (WM X.γ a mh mn mkd mfg mag (upz mpo i (k : Int)) mwy mdy mhw mkk mkf mrs mrm mrw 0 0 (Ct.g (Lc mh mn mdy mkd mfg mag (upz mpo i (k : Int)) mwy)) (Ct.w (Lc mh mn mdy mkd mfg mag (upz mpo i (k : Int)) mwy)) mre mpl mib msn mpn mlo mtl mke mim mhi mp0 mtk mki mun msd mbe) 60 [(6, .int (iN ((k : Int)))), (5, .int (iN (mpo i))), (4, .int (iN (v4_41))), (3, .int (iN (v3_41))), (0, .ref (a 0)), (1, .int (iN (i))), (2, .int (iN (w)))] [.int (iN (Ct.allW (Lc mh mn mdy mkd mfg mag (upz mpo i (k : Int)) mwy)))]
            have b121 := WFc.allW (WFm.L (WFm.posn hM (bd_upz (i := i) (WFm.po hM) (show 0 ≤ (k : Int) ∧ (k : Int) ≤ 14 by omega))) mdy)
            refine x_istore C [(7, .int (iN (Ct.allW (Lc mh mn mdy mkd mfg mag (upz mpo i (k : Int)) mwy)))), (6, .int (iN ((k : Int)))), (5, .int (iN (mpo i))), (4, .int (iN (v4_41))), (3, .int (iN (v3_41))), (0, .ref (a 0)), (1, .int (iN (i))), (2, .int (iN (w)))] (by decide) rfl dX12_sit_60 ?_
            refine x_iload C 3 rfl dX12_sit_62 ?_
            have LP80 : ∀ (s0_80 : Int), (s0_80 = (if v4_41 < 0 ∨ Ct.allW (Lc mh mn mdy mkd mfg mag (upz mpo i (k : Int)) mwy) < v4_41 then (k : Int) else v3_41)) → Wx X 0 0 (WM X.γ a mh mn mkd mfg mag (upz mpo i (k : Int)) mwy mdy mhw mkk mkf mrs mrm mrw 0 0 (Ct.g (Lc mh mn mdy mkd mfg mag (upz mpo i (k : Int)) mwy)) (Ct.w (Lc mh mn mdy mkd mfg mag (upz mpo i (k : Int)) mwy)) mre mpl mib msn mpn mlo mtl mke mim mhi mp0 mtk mki mun msd mbe) 80 [(7, .int (iN (Ct.allW (Lc mh mn mdy mkd mfg mag (upz mpo i (k : Int)) mwy)))), (6, .int (iN ((k : Int)))), (5, .int (iN (mpo i))), (4, .int (iN (v4_41))), (3, .int (iN (v3_41))), (0, .ref (a 0)), (1, .int (iN (i))), (2, .int (iN (w)))] [.int (iN (s0_80))] := by
              intro s0_80 es0_80
              refine x_istore_n C [(3, .int (iN (s0_80))), (7, .int (iN (Ct.allW (Lc mh mn mdy mkd mfg mag (upz mpo i (k : Int)) mwy)))), (6, .int (iN ((k : Int)))), (5, .int (iN (mpo i))), (4, .int (iN (v4_41))), (0, .ref (a 0)), (1, .int (iN (i))), (2, .int (iN (w)))] rfl (by decide) rfl dX12_sit_80 ?_
              refine x_iload C 4 rfl dX12_sit_81 ?_
              have LP100 : ∀ (s0_100 : Int), (s0_100 = (if v4_41 < 0 ∨ Ct.allW (Lc mh mn mdy mkd mfg mag (upz mpo i (k : Int)) mwy) < v4_41 then Ct.allW (Lc mh mn mdy mkd mfg mag (upz mpo i (k : Int)) mwy) else v4_41)) → Wx X 0 0 (WM X.γ a mh mn mkd mfg mag (upz mpo i (k : Int)) mwy mdy mhw mkk mkf mrs mrm mrw 0 0 (Ct.g (Lc mh mn mdy mkd mfg mag (upz mpo i (k : Int)) mwy)) (Ct.w (Lc mh mn mdy mkd mfg mag (upz mpo i (k : Int)) mwy)) mre mpl mib msn mpn mlo mtl mke mim mhi mp0 mtk mki mun msd mbe) 100 [(3, .int (iN (s0_80))), (7, .int (iN (Ct.allW (Lc mh mn mdy mkd mfg mag (upz mpo i (k : Int)) mwy)))), (6, .int (iN ((k : Int)))), (5, .int (iN (mpo i))), (4, .int (iN (v4_41))), (0, .ref (a 0)), (1, .int (iN (i))), (2, .int (iN (w)))] [.int (iN (s0_100))] := by
                intro s0_100 es0_100
                refine x_istore C [(4, .int (iN (s0_100))), (3, .int (iN (s0_80))), (7, .int (iN (Ct.allW (Lc mh mn mdy mkd mfg mag (upz mpo i (k : Int)) mwy)))), (6, .int (iN ((k : Int)))), (5, .int (iN (mpo i))), (0, .ref (a 0)), (1, .int (iN (i))), (2, .int (iN (w)))] (by decide) rfl dX12_sit_100 ?_
                refine x_iinc C 3 [(6, .int (iN ((k : Int) + 1))), (4, .int (iN (s0_100))), (3, .int (iN (s0_80))), (7, .int (iN (Ct.allW (Lc mh mn mdy mkd mfg mag (upz mpo i (k : Int)) mwy)))), (5, .int (iN (mpo i))), (0, .ref (a 0)), (1, .int (iN (i))), (2, .int (iN (w)))] rfl rfl (by decide) rfl dX12_sit_102 ?_
                refine x_goto C 41 (by decide) dX12_sit_105 ?_
                refine Wx.subL [0, 4, 1, 2, 5, 6, 7] rfl ?_
                exact ih41 (k + 1) (Ct.g (Lc mh mn mdy mkd mfg mag (upz mpo i (k : Int)) mwy)) (Ct.w (Lc mh mn mdy mkd mfg mag (upz mpo i (k : Int)) mwy)) ((k : Int)) _ _ _ (by omega) (by omega) (True.intro) (by omega) (by have hsw : swz (Lc mh mn mdy mkd mfg mag mpo mwy) i (k : Int) = Ct.allW (Lc mh mn mdy mkd mfg mag (upz mpo i (k : Int)) mwy) := rfl; simp only [siw]; rw [es0_100, ← e4_41, hsw]) (by have hsw : swz (Lc mh mn mdy mkd mfg mag mpo mwy) i (k : Int) = Ct.allW (Lc mh mn mdy mkd mfg mag (upz mpo i (k : Int)) mwy) := rfl; simp only [sic]; rw [es0_80, ← e3_41, ← e4_41, hsw])
              refine x_if_lt C 93 (by decide) (by omega) dX12_sit_83 (fun c_83 => ?_) (fun c_83 => ?_)
              · refine x_iload C 1 rfl dX12_sit_93 ?_
                refine x_goto C 100 (by decide) dX12_sit_95 ?_
                exact LP100 _ (by omega)
              · refine x_iload C 1 rfl dX12_sit_86 ?_
                refine x_iload C 4 rfl dX12_sit_88 ?_
                refine x_icmp_ge C 98 (by decide) (by omega) dX12_sit_90 (fun c_90 => ?_) (fun c_90 => ?_)
                · refine x_iload C 4 rfl dX12_sit_98 ?_
                  exact LP100 _ (by omega)
                · refine x_iload C 1 rfl dX12_sit_93 ?_
                  refine x_goto C 100 (by decide) dX12_sit_95 ?_
                  exact LP100 _ (by omega)
            refine x_if_lt C 74 (by decide) (by omega) dX12_sit_64 (fun c_64 => ?_) (fun c_64 => ?_)
            · refine x_iload C 1 rfl dX12_sit_74 ?_
              refine x_goto C 80 (by decide) dX12_sit_76 ?_
              exact LP80 _ (by omega)
            · refine x_iload C 0 rfl dX12_sit_67 ?_
              refine x_iload C 3 rfl dX12_sit_69 ?_
              refine x_icmp_ge C 79 (by decide) (by omega) dX12_sit_71 (fun c_71 => ?_) (fun c_71 => ?_)
              · refine x_iload_n C 4 rfl rfl dX12_sit_79 ?_
                exact LP80 _ (by omega)
              · refine x_iload C 1 rfl dX12_sit_74 ?_
                refine x_goto C 80 (by decide) dX12_sit_76 ?_
                exact LP80 _ (by omega)
      refine Wx.eqW (ws' := (WM X.γ a mh mn mkd mfg mag (upz mpo i (mpo i)) mwy mdy mhw mkk mkf mrs mrm mrw 0 0 mgr mwa mre mpl mib msn mpn mlo mtl mke mim mhi mp0 mtk mki mun msd mbe)) (by rw [upz_id]) ?_
      exact LP41 ((15 - (0)) + 1) (0) (mgr) (mwa) (mpo i) _ _ _ (by omega) (by omega) (True.intro) (by omega) (rfl) (rfl)
    · refine x_iconst (v := 0) C dX12_sit_23 ?_
      exact hret _ _ _ _ dX12_sit_24 rfl ⟨(by unfold q_sit; rw [if_neg (show ¬ (q_one (Lc mh mn mdy mkd mfg mag mpo mwy) i ∧ 0 ≤ w ∧ w ≤ 1) from (show ¬ ((0 ≤ i ∧ i ≤ mn - 1) ∧ 0 ≤ w ∧ w ≤ 1) by omega))]), Wk.mk⟩
end HSIT
