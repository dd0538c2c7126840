section HORD
/-- how far one gets from the first cell -/
def rfz (C : Ct) (i : Int) : Int := Ct.rc C i 0 14 1 15 (upz (Ct.po C) i 0)
theorem rfz_b {C : Ct} (hW : WFc C) (i : Int) : 0 ≤ rfz C i ∧ rfz C i ≤ 14 := rch_b (bd_upz hW.po (by omega)) 15
def rfb (C : Ct) : Nat → Int
  | 0 => -4
  | k + 1 => if rfb C k < rfz C (k : Int) then rfz C (k : Int) else rfb C k
def rfi (C : Ct) : Nat → Int
  | 0 => -4
  | k + 1 => if rfb C k < rfz C (k : Int) then (k : Int) else rfi C k
theorem rfb_b {C : Ct} (hW : WFc C) : ∀ k, -4 ≤ rfb C k ∧ rfb C k ≤ 14
  | 0 => by simp [rfb]
  | k + 1 => by
    have h1 := rfb_b hW k
    have h2 := rfz_b hW (k : Int)
    simp only [rfb]
    split <;> omega
def q_order (C : Ct) (w : Int) : Int := if 0 ≤ w ∧ w ≤ 1 then (if w = 0 then rfi C (Ct.n C).toNat else rfb C (Ct.n C).toNat) else -1
theorem in_X12_order_X12 : ∀ w ∈ u_ws RX12 TX12 34, w ∈ wsX12_order := by decide +kernel
theorem ok_X12_order : okY yX12_order 1 := by decide +kernel
def rmX12_order : Room := { frames := 5, cells := 0, slots := 0, locals := 116 }
set_option maxRecDepth 100000 in
set_option maxHeartbeats 400000 in
theorem c_X12_order (l : Launch) (γ : GX) (a : Nat → Nat) (mh : Int → Int) (mn : Int) (mkd : Int → Int) (mfg : Int → Int) (mag : Int → Int) (mpo : Int → Int) (mwy : Int → Int) (mdy : Int) (mhw : Int → Int) (mkk : Int → Int) (mkf : Int → Int) (mrs : Int → Int) (mrm : Int → Int) (mrw : Int → Int) (mth : Int) (mgr : Int → Int) (mwa : Int → Int) (mre : Int) (mpl : Int) (mib : Int) (msn : Int) (mpn : Int → Int) (mlo : Int → Int) (mtl : Int → Int) (mke : Int → Int) (mim : Int → Int) (mhi : Int) (mp0 : Int) (mtk : Int) (mki : Value) (mun : Int → Int) (msd : Int) (mbe : Int → Int) (hM : WFm mn mh mkd mfg mag mpo mwy mhw mkk mkf mrs mrm mrw) (w : Int) (h0_ : -2147483648 ≤ w ∧ w < 2147483648) : MI l γ yX12_order wsX12_order rmX12_order [.ref (a 0), .int (iN (w))] (WM γ a mh mn mkd mfg mag mpo mwy mdy mhw mkk mkf mrs mrm mrw mth 0 mgr mwa mre mpl mib msn mpn mlo mtl mke mim mhi mp0 mtk mki mun msd mbe) (fun r_ w_ => r_ = q_order (Lc mh mn mdy mkd mfg mag mpo mwy) w ∧ Wk γ a mh mn mkd mfg mag mpo mwy mdy mhw mkk mkf mrs mrm mrw 0 mim mhi w_) 0 0 := by
  refine MI.of (cc := cX12_order) (maxL := 7) (rt := .int) RX12 rfl (by decide +kernel) rfl (Nat.le_of_ble_eq_true rfl) ?_
  intro X C hγ hl hnm hret
  subst hγ
  have hMn := WFm.n hM
  show Wx X 0 0 (WM X.γ a mh mn mkd mfg mag mpo mwy mdy mhw mkk mkf mrs mrm mrw mth 0 mgr mwa mre mpl mib msn mpn mlo mtl mke mim mhi mp0 mtk mki mun msd mbe) 0 [(0, .ref (a 0)), (1, .int (iN (w)))] []
  refine x_aload_n C 0 rfl rfl dX12_order_0 ?_
  refine x_iconst (v := 0) C dX12_order_1 ?_
  refine x_put C in_X12_order_X12 tyX12 tyX12_ok nmX12 0 rfl rfl 14 (by decide) (List.mem_of_getElem? (i := 1) rfl) rfl rfl rfl rfl rfl (Nat.le_of_ble_eq_true rfl) (WM X.γ a mh mn mkd mfg mag mpo mwy mdy mhw mkk mkf mrs mrm mrw 0 0 mgr mwa mre mpl mib msn mpn mlo mtl mke mim mhi mp0 mtk mki mun msd mbe) rfl dX12_order_2 ?_
  refine x_iload_n C 1 rfl rfl dX12_order_5 ?_
  refine x_i2l C (by omega) dX12_order_6 ?_
  refine x_lconst C 0 rfl dX12_order_7 ?_
  refine x_lconst C 1 rfl dX12_order_8 ?_
  refine x_S_I C (As := [.long (jN (w)), .long (jN (0)), .long (jN (1))]) (rest := []) 3 gX12_order_X12_in (c_X12_in _ _ (WM X.γ a mh mn mkd mfg mag mpo mwy mdy mhw mkk mkf mrs mrm mrw 0 0 mgr mwa mre mpl mib msn mpn mlo mtl mke mim mhi mp0 mtk mki mun msd mbe) (w) (0) (1) (by omega) (by omega) (by omega)) rfl ok_X12_in rfl rfl rfl rfl dX12_order_9 (fun r w1 hp => ?_)
  obtain ⟨rfl, rfl⟩ := hp
  refine x_ifne_bz C 17 (by decide) dX12_order_12 (fun c_12 => ?_) (fun c_12 => ?_)
  · refine x_bipush C (-4) (by decide) dX12_order_17 ?_
    refine x_istore_n C [(2, .int (iN (-4))), (0, .ref (a 0)), (1, .int (iN (w)))] rfl (by decide) rfl dX12_order_19 ?_
    refine x_bipush C (-4) (by decide) dX12_order_20 ?_
    refine x_istore_n C [(3, .int (iN (-4))), (2, .int (iN (-4))), (0, .ref (a 0)), (1, .int (iN (w)))] rfl (by decide) rfl dX12_order_22 ?_
    refine x_iconst (v := 0) C dX12_order_23 ?_
    refine x_istore C [(4, .int (iN (0))), (3, .int (iN (-4))), (2, .int (iN (-4))), (0, .ref (a 0)), (1, .int (iN (w)))] (by decide) rfl dX12_order_24 ?_
    have LP26 : ∀ (f : Nat) (k : Nat) (G : Int → Int) (KE : Int → Int) (P0 : Int) (TK : Int) (KY : Value) (v4_26 : Int) (v3_26 : Int) (v2_26 : Int), (mn.toNat - k < f) → (k ≤ mn.toNat) → (((k : Int)) = v4_26) → (v3_26 = (rfb (Lc mh mn mdy mkd mfg mag mpo mwy) k)) → (v2_26 = (rfi (Lc mh mn mdy mkd mfg mag mpo mwy) k)) → Wx X 0 0 (WM X.γ a mh mn mkd mfg mag mpo mwy mdy mhw mkk mkf mrs mrm mrw 0 0 G mwa mre mpl mib msn mpn mlo mtl KE mim mhi P0 TK KY mun msd mbe) 26 [(4, .int (iN (v4_26))), (3, .int (iN (v3_26))), (2, .int (iN (v2_26))), (0, .ref (a 0)), (1, .int (iN (w)))] [] := by
      intro f
      induction f with
      | zero => intro k G KE P0 TK KY v4_26 v3_26 v2_26 hf; exact absurd hf (Nat.not_lt_zero _)
      | succ f ih26 =>
        intro k G KE P0 TK KY v4_26 v3_26 v2_26 hf hk e4_26 e3_26 e2_26
        subst e4_26
        have bw4 := rfb_b (WFm.L hM mdy) k
        refine x_iload C 0 rfl dX12_order_26 ?_
        refine x_aload_n C 3 rfl rfl dX12_order_28 ?_
        refine x_get C in_X12_order_X12 0 rfl rfl 1 (by decide) (List.mem_of_getElem? (i := 2) rfl) rfl (v := .int (iN (mn))) rfl dX12_order_29 ?_
        refine x_icmp_ge C 105 (by decide) (by omega) dX12_order_32 (fun c_32 => ?_) (fun c_32 => ?_)
        · refine x_iload_n C 4 rfl rfl dX12_order_105 ?_
          refine x_if_ne C 113 (by decide) (by omega) dX12_order_106 (fun c_106 => ?_) (fun c_106 => ?_)
          · refine x_iload_n C 1 rfl rfl dX12_order_113 ?_
            exact hret _ _ _ _ dX12_order_114 rfl ⟨(by have hz : k = mn.toNat := (by omega); subst hz; unfold q_order; rw [if_pos (show 0 ≤ w ∧ w ≤ 1 by omega), if_neg (show ¬ w = 0 by omega)]; exact e3_26), Wk.mk⟩
          · refine x_iload_n C 2 rfl rfl dX12_order_109 ?_
            refine x_goto C 114 (by decide) dX12_order_110 ?_
            exact hret _ _ _ _ dX12_order_114 rfl ⟨(by have hz : k = mn.toNat := (by omega); subst hz; unfold q_order; rw [if_pos (show 0 ≤ w ∧ w ≤ 1 by omega), if_pos (show w = 0 by omega)]; exact e2_26), Wk.mk⟩
        · refine x_aload_n C 3 rfl rfl dX12_order_35 ?_
          refine x_get C in_X12_order_X12 0 rfl rfl 5 (by decide) (List.mem_of_getElem? (i := 3) rfl) rfl (v := .ref (a 5)) rfl dX12_order_36 ?_
          refine x_iload C 0 rfl dX12_order_39 ?_
          refine x_iaload C (f := mpo) 5 rfl (by omega) rfl dX12_order_41 ?_
          have b122 := WFm.po hM ((k : Int))
          refine x_istore C [(5, .int (iN (mpo (k : Int)))), (4, .int (iN ((k : Int)))), (3, .int (iN (v3_26))), (2, .int (iN (v2_26))), (0, .ref (a 0)), (1, .int (iN (w)))] (by decide) rfl dX12_order_42 ?_
          refine x_aload_n C 4 rfl rfl dX12_order_44 ?_
          refine x_get C in_X12_order_X12 0 rfl rfl 5 (by decide) (List.mem_of_getElem? (i := 3) rfl) rfl (v := .ref (a 5)) rfl dX12_order_45 ?_
          refine x_iload C 1 rfl dX12_order_48 ?_
          refine x_iconst (v := 0) C dX12_order_50 ?_
          refine x_iastore C (f := mpo) 5 rfl (by omega) rfl (WM X.γ a mh mn mkd mfg mag (upz mpo (k : Int) 0) mwy mdy mhw mkk mkf mrs mrm mrw 0 0 G mwa mre mpl mib msn mpn mlo mtl KE mim mhi P0 TK KY mun msd mbe) rfl dX12_order_51 ?_
          refine x_aload_n C 4 rfl rfl dX12_order_52 ?_
          refine x_iload C 1 rfl dX12_order_53 ?_
          refine x_iconst (v := 0) C dX12_order_55 ?_
          refine x_iconst (v := 0) C dX12_order_56 ?_
          refine x_bipush C (14) (by decide) dX12_order_57 ?_
          refine x_V_I C (As := [.int (iN ((k : Int))), .int (iN (0)), .int (iN (1)), .int (iN (14))]) (rest := []) 4 0 rfl rfl gX12_order_X12_reached rfl (c_X12_reached _ _ a mh mn mkd mfg mag (upz mpo (k : Int) 0) mwy mdy mhw mkk mkf mrs mrm mrw 0 G mwa mre mpl mib msn mpn mlo mtl KE mim mhi P0 TK KY mun msd mbe (WFm.posn hM (bd_upz (i := (k : Int)) (WFm.po hM) (show (0 : Int) ≤ 0 ∧ (0 : Int) ≤ 14 by omega))) ((k : Int)) (0) (1) (14) (by omega) (by omega) (by omega) (by omega)) rfl ok_X12_reached rfl rfl rfl rfl dX12_order_59 (fun r w1 hp => ?_)
          obtain ⟨Gb123, rfl, rfl⟩ := hp
          show Wx X 0 0 (WM X.γ a mh mn mkd mfg mag (upz mpo (k : Int) 0) mwy mdy mhw mkk mkf mrs mrm mrw 0 0 Gb123 mwa mre mpl mib msn mpn mlo mtl (pck mh mn mdy mkd mfg mag (upz mpo (k : Int) 0) mwy) mim mhi 47 0 (.ref (a 18)) mun msd mbe) 62 [(5, .int (iN (mpo (k : Int)))), (4, .int (iN ((k : Int)))), (3, .int (iN (v3_26))), (2, .int (iN (v2_26))), (0, .ref (a 0)), (1, .int (iN (w)))] [.int (iN (Ct.rc (Lc mh mn mdy mkd mfg mag (upz mpo (k : Int) 0) mwy) ((k : Int)) 0 14 1 15 (upz mpo (k : Int) 0)))]
          have b124 : 0 ≤ Ct.rc (Lc mh mn mdy mkd mfg mag (upz mpo (k : Int) 0) mwy) ((k : Int)) 0 14 1 15 (upz mpo (k : Int) 0) ∧ Ct.rc (Lc mh mn mdy mkd mfg mag (upz mpo (k : Int) 0) mwy) ((k : Int)) 0 14 1 15 (upz mpo (k : Int) 0) ≤ 14 := rch_b (WFm.po (WFm.posn hM (bd_upz (i := (k : Int)) (WFm.po hM) (show (0 : Int) ≤ 0 ∧ (0 : Int) ≤ 14 by omega)))) 15
          refine x_istore C [(6, .int (iN (Ct.rc (Lc mh mn mdy mkd mfg mag (upz mpo (k : Int) 0) mwy) ((k : Int)) 0 14 1 15 (upz mpo (k : Int) 0)))), (5, .int (iN (mpo (k : Int)))), (4, .int (iN ((k : Int)))), (3, .int (iN (v3_26))), (2, .int (iN (v2_26))), (0, .ref (a 0)), (1, .int (iN (w)))] (by decide) rfl dX12_order_62 ?_
          refine x_aload_n C 5 rfl rfl dX12_order_64 ?_
          refine x_get C in_X12_order_X12 0 rfl rfl 5 (by decide) (List.mem_of_getElem? (i := 3) rfl) rfl (v := .ref (a 5)) rfl dX12_order_65 ?_
          refine x_iload C 2 rfl dX12_order_68 ?_
          refine x_iload C 1 rfl dX12_order_70 ?_
          refine x_iastore C (f := (upz mpo (k : Int) 0)) 5 rfl (by omega) rfl (WM X.γ a mh mn mkd mfg mag (upz (upz mpo (k : Int) 0) (k : Int) (mpo (k : Int))) mwy mdy mhw mkk mkf mrs mrm mrw 0 0 Gb123 mwa mre mpl mib msn mpn mlo mtl (pck mh mn mdy mkd mfg mag (upz mpo (k : Int) 0) mwy) mim mhi 47 0 (.ref (a 18)) mun msd mbe) rfl dX12_order_72 ?_
          refine Wx.eqW (ws' := (WM X.γ a mh mn mkd mfg mag mpo mwy mdy mhw mkk mkf mrs mrm mrw 0 0 Gb123 mwa mre mpl mib msn mpn mlo mtl (pck mh mn mdy mkd mfg mag (upz mpo (k : Int) 0) mwy) mim mhi 47 0 (.ref (a 18)) mun msd mbe)) (by rw [upz_upz, upz_id]) ?_
          refine x_iload C 0 rfl dX12_order_73 ?_
          refine x_iload_n C 3 rfl rfl dX12_order_75 ?_
          have LP85 : ∀ (s0_85 : Int), (s0_85 = (if v3_26 < Ct.rc (Lc mh mn mdy mkd mfg mag (upz mpo (k : Int) 0) mwy) (k : Int) 0 14 1 15 (upz mpo (k : Int) 0) then (k : Int) else v2_26)) → Wx X 0 0 (WM X.γ a mh mn mkd mfg mag mpo mwy mdy mhw mkk mkf mrs mrm mrw 0 0 Gb123 mwa mre mpl mib msn mpn mlo mtl (pck mh mn mdy mkd mfg mag (upz mpo (k : Int) 0) mwy) mim mhi 47 0 (.ref (a 18)) mun msd mbe) 85 [(6, .int (iN (Ct.rc (Lc mh mn mdy mkd mfg mag (upz mpo (k : Int) 0) mwy) ((k : Int)) 0 14 1 15 (upz mpo (k : Int) 0)))), (5, .int (iN (mpo (k : Int)))), (4, .int (iN ((k : Int)))), (3, .int (iN (v3_26))), (2, .int (iN (v2_26))), (0, .ref (a 0)), (1, .int (iN (w)))] [.int (iN (s0_85))] := by
            intro s0_85 es0_85
            refine x_istore_n C [(2, .int (iN (s0_85))), (6, .int (iN (Ct.rc (Lc mh mn mdy mkd mfg mag (upz mpo (k : Int) 0) mwy) ((k : Int)) 0 14 1 15 (upz mpo (k : Int) 0)))), (5, .int (iN (mpo (k : Int)))), (4, .int (iN ((k : Int)))), (3, .int (iN (v3_26))), (0, .ref (a 0)), (1, .int (iN (w)))] rfl (by decide) rfl dX12_order_85 ?_
            refine x_iload C 1 rfl dX12_order_86 ?_
            refine x_iload_n C 4 rfl rfl dX12_order_88 ?_
            have LP98 : ∀ (s0_98 : Int), (s0_98 = (if v3_26 < Ct.rc (Lc mh mn mdy mkd mfg mag (upz mpo (k : Int) 0) mwy) (k : Int) 0 14 1 15 (upz mpo (k : Int) 0) then Ct.rc (Lc mh mn mdy mkd mfg mag (upz mpo (k : Int) 0) mwy) (k : Int) 0 14 1 15 (upz mpo (k : Int) 0) else v3_26)) → Wx X 0 0 (WM X.γ a mh mn mkd mfg mag mpo mwy mdy mhw mkk mkf mrs mrm mrw 0 0 Gb123 mwa mre mpl mib msn mpn mlo mtl (pck mh mn mdy mkd mfg mag (upz mpo (k : Int) 0) mwy) mim mhi 47 0 (.ref (a 18)) mun msd mbe) 98 [(2, .int (iN (s0_85))), (6, .int (iN (Ct.rc (Lc mh mn mdy mkd mfg mag (upz mpo (k : Int) 0) mwy) ((k : Int)) 0 14 1 15 (upz mpo (k : Int) 0)))), (5, .int (iN (mpo (k : Int)))), (4, .int (iN ((k : Int)))), (3, .int (iN (v3_26))), (0, .ref (a 0)), (1, .int (iN (w)))] [.int (iN (s0_98))] := by
              intro s0_98 es0_98
              refine x_istore_n C [(3, .int (iN (s0_98))), (2, .int (iN (s0_85))), (6, .int (iN (Ct.rc (Lc mh mn mdy mkd mfg mag (upz mpo (k : Int) 0) mwy) ((k : Int)) 0 14 1 15 (upz mpo (k : Int) 0)))), (5, .int (iN (mpo (k : Int)))), (4, .int (iN ((k : Int)))), (0, .ref (a 0)), (1, .int (iN (w)))] rfl (by decide) rfl dX12_order_98 ?_
              refine x_iinc C 4 [(4, .int (iN ((k : Int) + 1))), (3, .int (iN (s0_98))), (2, .int (iN (s0_85))), (6, .int (iN (Ct.rc (Lc mh mn mdy mkd mfg mag (upz mpo (k : Int) 0) mwy) ((k : Int)) 0 14 1 15 (upz mpo (k : Int) 0)))), (5, .int (iN (mpo (k : Int)))), (0, .ref (a 0)), (1, .int (iN (w)))] rfl rfl (by decide) rfl dX12_order_99 ?_
              refine x_goto C 26 (by decide) dX12_order_102 ?_
              refine Wx.subL [0, 1, 2, 5, 6] rfl ?_
              exact ih26 (k + 1) (Gb123) (pck mh mn mdy mkd mfg mag (upz mpo (k : Int) 0) mwy) (47) (0) ((.ref (a 18))) _ _ _ (by omega) (by omega) (by omega) (by have hsw : rfz (Lc mh mn mdy mkd mfg mag mpo mwy) (k : Int) = Ct.rc (Lc mh mn mdy mkd mfg mag (upz mpo (k : Int) 0) mwy) (k : Int) 0 14 1 15 (upz mpo (k : Int) 0) := rfl; simp only [rfb]; rw [es0_98, ← e3_26, hsw]) (by have hsw : rfz (Lc mh mn mdy mkd mfg mag mpo mwy) (k : Int) = Ct.rc (Lc mh mn mdy mkd mfg mag (upz mpo (k : Int) 0) mwy) (k : Int) 0 14 1 15 (upz mpo (k : Int) 0) := rfl; simp only [rfi]; rw [es0_85, ← e2_26, ← e3_26, hsw])
            refine x_icmp_le C 97 (by decide) (by omega) dX12_order_89 (fun c_89 => ?_) (fun c_89 => ?_)
            · refine x_iload_n C 4 rfl rfl dX12_order_97 ?_
              exact LP98 _ (by omega)
            · refine x_iload C 1 rfl dX12_order_92 ?_
              refine x_goto C 98 (by decide) dX12_order_94 ?_
              exact LP98 _ (by omega)
          refine x_icmp_le C 84 (by decide) (by omega) dX12_order_76 (fun c_76 => ?_) (fun c_76 => ?_)
          · refine x_iload_n C 4 rfl rfl dX12_order_84 ?_
            exact LP85 _ (by omega)
          · refine x_iload C 2 rfl dX12_order_79 ?_
            refine x_goto C 85 (by decide) dX12_order_81 ?_
            exact LP85 _ (by omega)
    exact LP26 ((mn.toNat - (0)) + 1) (0) (mgr) (mke) (mp0) (mtk) (mki) _ _ _ (by omega) (by omega) (by omega) (rfl) (rfl)
  · refine x_iconst (v := 0) C dX12_order_15 ?_
    exact hret _ _ _ _ dX12_order_16 rfl ⟨(by unfold q_order; rw [if_neg (show ¬ (0 ≤ w ∧ w ≤ 1) by omega)]), Wk.mk⟩
end HORD
