section HAPA
/-- all the water, two put at the lesser's cell -/
def apz (C : Ct) (i j : Int) : Int := Ct.allW (Ct.set_po C (upz (upz (Ct.po C) i (if Ct.po C i < Ct.po C j then Ct.po C i else Ct.po C j)) j (if Ct.po C i < Ct.po C j then Ct.po C i else Ct.po C j)))
def apn (C : Ct) (i : Int) : Nat → Int
  | 0 => 0
  | k + 1 => apn C i k + (if Ct.allW C < apz C i (i + 1 + (k : Int)) then 1 else 0)
def apr (C : Ct) (i p0 : Int) : Nat → Int
  | 0 => p0
  | k + 1 => if Ct.allW C < apz C i (i + 1 + (k : Int)) ∧ apr C i p0 k < 0 then 10 * i + (i + 1 + (k : Int)) else apr C i p0 k
def apN (C : Ct) : Nat → Int
  | 0 => 0
  | m + 1 => apN C m + apn C (m : Int) ((Ct.n C).toNat - (m + 1))
def apR (C : Ct) : Nat → Int
  | 0 => -4
  | m + 1 => apr C (m : Int) (apR C m) ((Ct.n C).toNat - (m + 1))
theorem apr_b {C : Ct} {i p0 : Int} (hi : 0 ≤ i ∧ i ≤ 6) (hp : -4 ≤ p0 ∧ p0 ≤ 100) : ∀ k, k ≤ 6 → -4 ≤ apr C i p0 k ∧ apr C i p0 k ≤ 100
  | 0, _ => hp
  | k + 1, h => by
    have h1 := apr_b (C := C) hi hp k (by omega)
    simp only [apr]
    split <;> omega
theorem apR_b {C : Ct} (hn : (Ct.n C).toNat ≤ 6) : ∀ m, m ≤ 6 → -4 ≤ apR C m ∧ apR C m ≤ 100
  | 0, _ => by simp [apR]
  | m + 1, h => apr_b (by omega) (apR_b hn m (by omega)) _ (by omega)
def q_apart (C : Ct) (w : Int) : Int := if 0 ≤ w ∧ w ≤ 1 then (if w = 0 then apN C (Ct.n C).toNat else apR C (Ct.n C).toNat) else -1
theorem in_X12_apart_X12 : ∀ w ∈ u_ws RX12 TX12 34, w ∈ wsX12_apart := by decide +kernel
theorem ok_X12_apart : okY yX12_apart 1 := by decide +kernel
def rmX12_apart : Room := { frames := 4, cells := 0, slots := 0, locals := 92 }
set_option maxRecDepth 100000 in
set_option maxHeartbeats 400000 in
theorem c_X12_apart (l : Launch) (γ : GX) (a : Nat → Nat) (mh : Int → Int) (mn : Int) (mkd : Int → Int) (mfg : Int → Int) (mag : Int → Int) (mpo : Int → Int) (mwy : Int → Int) (mdy : Int) (mhw : Int → Int) (mkk : Int → Int) (mkf : Int → Int) (mrs : Int → Int) (mrm : Int → Int) (mrw : Int → Int) (mth : Int) (mgr : Int → Int) (mwa : Int → Int) (mre : Int) (mpl : Int) (mib : Int) (msn : Int) (mpn : Int → Int) (mlo : Int → Int) (mtl : Int → Int) (mke : Int → Int) (mim : Int → Int) (mhi : Int) (mp0 : Int) (mtk : Int) (mki : Value) (mun : Int → Int) (msd : Int) (mbe : Int → Int) (hM : WFm mn mh mkd mfg mag mpo mwy mhw mkk mkf mrs mrm mrw) (w : Int) (h0_ : -2147483648 ≤ w ∧ w < 2147483648) : MI l γ yX12_apart wsX12_apart rmX12_apart [.ref (a 0), .int (iN (w))] (WM γ a mh mn mkd mfg mag mpo mwy mdy mhw mkk mkf mrs mrm mrw mth 0 mgr mwa mre mpl mib msn mpn mlo mtl mke mim mhi mp0 mtk mki mun msd mbe) (fun r_ w_ => r_ = q_apart (Lc mh mn mdy mkd mfg mag mpo mwy) w ∧ Wk γ a mh mn mkd mfg mag mpo mwy mdy mhw mkk mkf mrs mrm mrw 0 mim mhi w_) 0 0 := by
  refine MI.of (cc := cX12_apart) (maxL := 9) (rt := .int) RX12 rfl (by decide +kernel) rfl (Nat.le_of_ble_eq_true rfl) ?_
  intro X C hγ hl hnm hret
  subst hγ
  have hMn := WFm.n hM
  show Wx X 0 0 (WM X.γ a mh mn mkd mfg mag mpo mwy mdy mhw mkk mkf mrs mrm mrw mth 0 mgr mwa mre mpl mib msn mpn mlo mtl mke mim mhi mp0 mtk mki mun msd mbe) 0 [(0, .ref (a 0)), (1, .int (iN (w)))] []
  refine x_aload_n C 0 rfl rfl dX12_apart_0 ?_
  refine x_iconst (v := 0) C dX12_apart_1 ?_
  refine x_put C in_X12_apart_X12 tyX12 tyX12_ok nmX12 0 rfl rfl 14 (by decide) (List.mem_of_getElem? (i := 1) rfl) rfl rfl rfl rfl rfl (Nat.le_of_ble_eq_true rfl) (WM X.γ a mh mn mkd mfg mag mpo mwy mdy mhw mkk mkf mrs mrm mrw 0 0 mgr mwa mre mpl mib msn mpn mlo mtl mke mim mhi mp0 mtk mki mun msd mbe) rfl dX12_apart_2 ?_
  refine x_iload_n C 1 rfl rfl dX12_apart_5 ?_
  refine x_i2l C (by omega) dX12_apart_6 ?_
  refine x_lconst C 0 rfl dX12_apart_7 ?_
  refine x_lconst C 1 rfl dX12_apart_8 ?_
  refine x_S_I C (As := [.long (jN (w)), .long (jN (0)), .long (jN (1))]) (rest := []) 3 gX12_apart_X12_in (c_X12_in _ _ (WM X.γ a mh mn mkd mfg mag mpo mwy mdy mhw mkk mkf mrs mrm mrw 0 0 mgr mwa mre mpl mib msn mpn mlo mtl mke mim mhi mp0 mtk mki mun msd mbe) (w) (0) (1) (by omega) (by omega) (by omega)) rfl ok_X12_in rfl rfl rfl rfl dX12_apart_9 (fun r w1 hp => ?_)
  obtain ⟨rfl, rfl⟩ := hp
  refine x_ifne_bz C 17 (by decide) dX12_apart_12 (fun c_12 => ?_) (fun c_12 => ?_)
  · refine x_aload_n C 0 rfl rfl dX12_apart_17 ?_
    refine x_V_I C (As := []) (rest := []) 0 0 rfl rfl gX12_apart_X12_allWater rfl (c_X12_allWater0 _ _ a mh mn mkd mfg mag mpo mwy mdy mhw mkk mkf mrs mrm mrw 0 mgr mwa mre mpl mib msn mpn mlo mtl mke mim mhi mp0 mtk mki mun msd mbe hM) rfl ok_X12_allWater rfl rfl rfl rfl dX12_apart_18 (fun r w1 hp => ?_)
    obtain ⟨rfl, rfl⟩ := hp
    show Wx X 0 0 (WM X.γ a mh mn mkd mfg mag mpo mwy mdy mhw mkk mkf mrs mrm mrw 0 0 (Ct.g (Lc mh mn mdy mkd mfg mag mpo mwy)) (Ct.w (Lc mh mn mdy mkd mfg mag mpo mwy)) mre mpl mib msn mpn mlo mtl mke mim mhi mp0 mtk mki mun msd mbe) 21 [(0, .ref (a 0)), (1, .int (iN (w)))] [.int (iN (Ct.allW (Lc mh mn mdy mkd mfg mag mpo mwy)))]
    have b128 := WFc.allW (WFm.L hM mdy)
    refine x_istore_n C [(2, .int (iN (Ct.allW (Lc mh mn mdy mkd mfg mag mpo mwy)))), (0, .ref (a 0)), (1, .int (iN (w)))] rfl (by decide) rfl dX12_apart_21 ?_
    refine x_iconst (v := 0) C dX12_apart_22 ?_
    refine x_istore_n C [(3, .int (iN (0))), (2, .int (iN (Ct.allW (Lc mh mn mdy mkd mfg mag mpo mwy)))), (0, .ref (a 0)), (1, .int (iN (w)))] rfl (by decide) rfl dX12_apart_23 ?_
    refine x_bipush C (-4) (by decide) dX12_apart_24 ?_
    refine x_istore C [(4, .int (iN (-4))), (3, .int (iN (0))), (2, .int (iN (Ct.allW (Lc mh mn mdy mkd mfg mag mpo mwy)))), (0, .ref (a 0)), (1, .int (iN (w)))] (by decide) rfl dX12_apart_26 ?_
    refine x_iconst (v := 0) C dX12_apart_28 ?_
    refine x_istore C [(5, .int (iN (0))), (4, .int (iN (-4))), (3, .int (iN (0))), (2, .int (iN (Ct.allW (Lc mh mn mdy mkd mfg mag mpo mwy)))), (0, .ref (a 0)), (1, .int (iN (w)))] (by decide) rfl dX12_apart_29 ?_
    have LP31 : ∀ (f : Nat) (m : Nat) (G : Int → Int) (KE : Int → Int) (P0 : Int) (TK : Int) (KY : Value) (WA : Int → Int) (v5_31 : Int) (v4_31 : Int) (v3_31 : Int), (mn.toNat - m < f) → (m ≤ mn.toNat) → (((m : Int)) = v5_31) → (v4_31 = (apR (Lc mh mn mdy mkd mfg mag mpo mwy) m)) → (v3_31 = (apN (Lc mh mn mdy mkd mfg mag mpo mwy) m)) → Wx X 0 0 (WM X.γ a mh mn mkd mfg mag mpo mwy mdy mhw mkk mkf mrs mrm mrw 0 0 G WA mre mpl mib msn mpn mlo mtl KE mim mhi P0 TK KY mun msd mbe) 31 [(5, .int (iN (v5_31))), (4, .int (iN (v4_31))), (3, .int (iN (v3_31))), (2, .int (iN (Ct.allW (Lc mh mn mdy mkd mfg mag mpo mwy)))), (0, .ref (a 0)), (1, .int (iN (w)))] [] := by
      intro f
      induction f with
      | zero => intro m G KE P0 TK KY WA v5_31 v4_31 v3_31 hf; exact absurd hf (Nat.not_lt_zero _)
      | succ f ih31 =>
        intro m G KE P0 TK KY WA v5_31 v4_31 v3_31 hf hm e5_31 e4_31 e3_31
        subst e5_31
        have bR := apR_b (C := (Lc mh mn mdy mkd mfg mag mpo mwy)) (show mn.toNat ≤ 6 by omega) m (by omega)
        refine x_iload C 0 rfl dX12_apart_31 ?_
        refine x_aload_n C 4 rfl rfl dX12_apart_33 ?_
        refine x_get C in_X12_apart_X12 0 rfl rfl 1 (by decide) (List.mem_of_getElem? (i := 2) rfl) rfl (v := .int (iN (mn))) rfl dX12_apart_34 ?_
        refine x_icmp_ge C 182 (by decide) (by omega) dX12_apart_37 (fun c_37 => ?_) (fun c_37 => ?_)
        · refine x_iload_n C 5 rfl rfl dX12_apart_182 ?_
          refine x_if_ne C 190 (by decide) (by omega) dX12_apart_183 (fun c_183 => ?_) (fun c_183 => ?_)
          · refine x_iload C 1 rfl dX12_apart_190 ?_
            exact hret _ _ _ _ dX12_apart_192 rfl ⟨(by have hz : m = mn.toNat := (by omega); subst hz; unfold q_apart; rw [if_pos (show 0 ≤ w ∧ w ≤ 1 by omega), if_neg (show ¬ w = 0 by omega)]; exact e4_31), Wk.mk⟩
          · refine x_iload_n C 2 rfl rfl dX12_apart_186 ?_
            refine x_goto C 192 (by decide) dX12_apart_187 ?_
            exact hret _ _ _ _ dX12_apart_192 rfl ⟨(by have hz : m = mn.toNat := (by omega); subst hz; unfold q_apart; rw [if_pos (show 0 ≤ w ∧ w ≤ 1 by omega), if_pos (show w = 0 by omega)]; exact e3_31), Wk.mk⟩
        · refine x_iload C 0 rfl dX12_apart_40 ?_
          refine x_iconst (v := 0) C dX12_apart_42 ?_
          refine x_iadd C dX12_apart_43 ?_
          refine x_istore C [(6, .int (iN ((m : Int) + 1))), (5, .int (iN ((m : Int)))), (4, .int (iN (v4_31))), (3, .int (iN (v3_31))), (2, .int (iN (Ct.allW (Lc mh mn mdy mkd mfg mag mpo mwy)))), (0, .ref (a 0)), (1, .int (iN (w)))] (by decide) rfl dX12_apart_44 ?_
          have LP46 : ∀ (f : Nat) (k : Nat) (HG : Int → Int) (HKE : Int → Int) (HP0 : Int) (HTK : Int) (HKY : Value) (HWA : Int → Int) (v6_46 : Int) (v4_46 : Int) (v3_46 : Int), (mn.toNat - (m + 1) - k < f) → ((m : Int) + 1 + (k : Int) ≤ mn) → (((m : Int) + 1 + (k : Int)) = v6_46) → (v4_46 = (apr (Lc mh mn mdy mkd mfg mag mpo mwy) (m : Int) v4_31 k)) → (v3_46 = (v3_31 + apn (Lc mh mn mdy mkd mfg mag mpo mwy) (m : Int) k)) → Wx X 0 0 (WM X.γ a mh mn mkd mfg mag mpo mwy mdy mhw mkk mkf mrs mrm mrw 0 0 HG HWA mre mpl mib msn mpn mlo mtl HKE mim mhi HP0 HTK HKY mun msd mbe) 46 [(6, .int (iN (v6_46))), (5, .int (iN ((m : Int)))), (4, .int (iN (v4_46))), (3, .int (iN (v3_46))), (2, .int (iN (Ct.allW (Lc mh mn mdy mkd mfg mag mpo mwy)))), (0, .ref (a 0)), (1, .int (iN (w)))] [] := by
            intro f
            induction f with
            | zero => intro k HG HKE HP0 HTK HKY HWA v6_46 v4_46 v3_46 hf; exact absurd hf (Nat.not_lt_zero _)
            | succ f ih46 =>
              intro k HG HKE HP0 HTK HKY HWA v6_46 v4_46 v3_46 hf hk e6_46 e4_46 e3_46
              subst e6_46
              have br4 := apr_b (C := (Lc mh mn mdy mkd mfg mag mpo mwy)) (i := (m : Int)) (p0 := v4_31) (by omega) (by omega) k (by omega)
              refine x_iload C 0 rfl dX12_apart_46 ?_
              refine x_aload_n C 5 rfl rfl dX12_apart_48 ?_
              refine x_get C in_X12_apart_X12 0 rfl rfl 1 (by decide) (List.mem_of_getElem? (i := 2) rfl) rfl (v := .int (iN (mn))) rfl dX12_apart_49 ?_
              refine x_icmp_ge C 176 (by decide) (by omega) dX12_apart_52 (fun c_52 => ?_) (fun c_52 => ?_)
              · refine x_iinc C 1 [(5, .int (iN ((m : Int) + 1))), (6, .int (iN ((m : Int) + 1 + (k : Int)))), (4, .int (iN (v4_46))), (3, .int (iN (v3_46))), (2, .int (iN (Ct.allW (Lc mh mn mdy mkd mfg mag mpo mwy)))), (0, .ref (a 0)), (1, .int (iN (w)))] rfl rfl (by decide) rfl dX12_apart_176 ?_
                refine x_goto C 31 (by decide) dX12_apart_179 ?_
                refine Wx.subL [0, 2, 3, 4, 5, 6] rfl ?_
                exact ih31 (m + 1) (HG) (HKE) (HP0) (HTK) (HKY) (HWA) _ _ _ (by omega) (by omega) (by omega) (by have hz : k = mn.toNat - (m + 1) := (by omega); subst hz; show _ = apr (Lc mh mn mdy mkd mfg mag mpo mwy) (m : Int) (apR (Lc mh mn mdy mkd mfg mag mpo mwy) m) (mn.toNat - (m + 1)); rw [← e4_31, e4_46]) (by have hz : k = mn.toNat - (m + 1) := (by omega); subst hz; show _ = apN (Lc mh mn mdy mkd mfg mag mpo mwy) m + apn (Lc mh mn mdy mkd mfg mag mpo mwy) (m : Int) (mn.toNat - (m + 1)); rw [← e3_31, e3_46])
              · refine x_aload_n C 5 rfl rfl dX12_apart_55 ?_
                refine x_V_V C (As := []) (rest := []) 0 0 rfl rfl gX12_apart_X12_open rfl (c_X12_open _ _ a mh mn mkd mfg mag mpo mwy mdy mhw mkk mkf mrs mrm mrw 0 0 HG HWA mre mpl mib msn mpn mlo mtl HKE mim mhi HP0 HTK HKY mun msd mbe) rfl ok_X12_open rfl rfl rfl rfl dX12_apart_56 (fun w1 hp => ?_)
                obtain rfl := hp
                refine x_aload_n C 5 rfl rfl dX12_apart_59 ?_
                refine x_get C in_X12_apart_X12 0 rfl rfl 5 (by decide) (List.mem_of_getElem? (i := 3) rfl) rfl (v := .ref (a 5)) rfl dX12_apart_60 ?_
                refine x_iload C 1 rfl dX12_apart_63 ?_
                refine x_iaload C (f := mpo) 5 rfl (by omega) rfl dX12_apart_65 ?_
                have b129 := WFm.po hM ((m : Int))
                refine x_aload_n C 5 rfl rfl dX12_apart_66 ?_
                refine x_get C in_X12_apart_X12 0 rfl rfl 5 (by decide) (List.mem_of_getElem? (i := 3) rfl) rfl (v := .ref (a 5)) rfl dX12_apart_67 ?_
                refine x_iload C 0 rfl dX12_apart_70 ?_
                refine x_iaload C (f := mpo) 5 rfl (by omega) rfl dX12_apart_72 ?_
                have b130 := WFm.po hM ((m : Int) + 1 + (k : Int))
                have LP93 : ∀ (s0_93 : Int), (s0_93 = (if mpo (m : Int) < mpo ((m : Int) + 1 + (k : Int)) then mpo (m : Int) else mpo ((m : Int) + 1 + (k : Int)))) → Wx X 0 0 (WM X.γ a mh mn mkd mfg mag mpo mwy mdy mhw mkk mkf mrs mrm mrw 0 0 HG HWA mre mpl mib msn mpn mlo mtl (pck mh mn mdy mkd mfg mag mpo mwy) mim mhi 47 1 (.ref (a 18)) mun msd mbe) 93 [(6, .int (iN ((m : Int) + 1 + (k : Int)))), (5, .int (iN ((m : Int)))), (4, .int (iN (v4_46))), (3, .int (iN (v3_46))), (2, .int (iN (Ct.allW (Lc mh mn mdy mkd mfg mag mpo mwy)))), (0, .ref (a 0)), (1, .int (iN (w)))] [.int (iN (s0_93))] := by
                  intro s0_93 es0_93
                  have hs93 : 0 ≤ s0_93 ∧ s0_93 ≤ 14 := by have b1 := WFm.po hM (m : Int); have b2 := WFm.po hM ((m : Int) + 1 + (k : Int)); omega
                  refine x_istore C [(7, .int (iN (s0_93))), (6, .int (iN ((m : Int) + 1 + (k : Int)))), (5, .int (iN ((m : Int)))), (4, .int (iN (v4_46))), (3, .int (iN (v3_46))), (2, .int (iN (Ct.allW (Lc mh mn mdy mkd mfg mag mpo mwy)))), (0, .ref (a 0)), (1, .int (iN (w)))] (by decide) rfl dX12_apart_93 ?_
                  refine x_aload_n C 6 rfl rfl dX12_apart_95 ?_
                  refine x_get C in_X12_apart_X12 0 rfl rfl 5 (by decide) (List.mem_of_getElem? (i := 3) rfl) rfl (v := .ref (a 5)) rfl dX12_apart_96 ?_
                  refine x_iload C 2 rfl dX12_apart_99 ?_
                  refine x_iload C 0 rfl dX12_apart_101 ?_
                  refine x_iastore C (f := mpo) 5 rfl (by omega) rfl (WM X.γ a mh mn mkd mfg mag (upz mpo (m : Int) s0_93) mwy mdy mhw mkk mkf mrs mrm mrw 0 0 HG HWA mre mpl mib msn mpn mlo mtl (pck mh mn mdy mkd mfg mag mpo mwy) mim mhi 47 1 (.ref (a 18)) mun msd mbe) rfl dX12_apart_103 ?_
                  refine x_aload_n C 6 rfl rfl dX12_apart_104 ?_
                  refine x_get C in_X12_apart_X12 0 rfl rfl 5 (by decide) (List.mem_of_getElem? (i := 3) rfl) rfl (v := .ref (a 5)) rfl dX12_apart_105 ?_
                  refine x_iload C 1 rfl dX12_apart_108 ?_
                  refine x_iload C 0 rfl dX12_apart_110 ?_
                  refine x_iastore C (f := (upz mpo (m : Int) s0_93)) 5 rfl (by omega) rfl (WM X.γ a mh mn mkd mfg mag (upz (upz mpo (m : Int) s0_93) ((m : Int) + 1 + (k : Int)) s0_93) mwy mdy mhw mkk mkf mrs mrm mrw 0 0 HG HWA mre mpl mib msn mpn mlo mtl (pck mh mn mdy mkd mfg mag mpo mwy) mim mhi 47 1 (.ref (a 18)) mun msd mbe) rfl dX12_apart_112 ?_
                  refine x_aload_n C 6 rfl rfl dX12_apart_113 ?_
                  refine x_V_I C (As := []) (rest := []) 0 0 rfl rfl gX12_apart_X12_allWater rfl (c_X12_allWater0 _ _ a mh mn mkd mfg mag (upz (upz mpo (m : Int) s0_93) ((m : Int) + 1 + (k : Int)) s0_93) mwy mdy mhw mkk mkf mrs mrm mrw 0 HG HWA mre mpl mib msn mpn mlo mtl (pck mh mn mdy mkd mfg mag mpo mwy) mim mhi 47 1 (.ref (a 18)) mun msd mbe (WFm.posn hM (bd_upz (i := ((m : Int) + 1 + (k : Int))) (bd_upz (i := (m : Int)) (WFm.po hM) hs93) hs93))) rfl ok_X12_allWater rfl rfl rfl rfl dX12_apart_114 (fun r w1 hp => ?_)
                  obtain ⟨rfl, rfl⟩ := hp
                  show Wx X 0 0 (WM X.γ a mh mn mkd mfg mag (upz (upz mpo (m : Int) s0_93) ((m : Int) + 1 + (k : Int)) s0_93) mwy mdy mhw mkk mkf mrs mrm mrw 0 0 (Ct.g (Lc mh mn mdy mkd mfg mag (upz (upz mpo (m : Int) s0_93) ((m : Int) + 1 + (k : Int)) s0_93) mwy)) (Ct.w (Lc mh mn mdy mkd mfg mag (upz (upz mpo (m : Int) s0_93) ((m : Int) + 1 + (k : Int)) s0_93) mwy)) mre mpl mib msn mpn mlo mtl (pck mh mn mdy mkd mfg mag mpo mwy) mim mhi 47 1 (.ref (a 18)) mun msd mbe) 117 [(7, .int (iN (s0_93))), (6, .int (iN ((m : Int) + 1 + (k : Int)))), (5, .int (iN ((m : Int)))), (4, .int (iN (v4_46))), (3, .int (iN (v3_46))), (2, .int (iN (Ct.allW (Lc mh mn mdy mkd mfg mag mpo mwy)))), (0, .ref (a 0)), (1, .int (iN (w)))] [.int (iN (Ct.allW (Lc mh mn mdy mkd mfg mag (upz (upz mpo (m : Int) s0_93) ((m : Int) + 1 + (k : Int)) s0_93) mwy)))]
                  have b131 := WFc.allW (WFm.L (WFm.posn hM (bd_upz (i := ((m : Int) + 1 + (k : Int))) (bd_upz (i := (m : Int)) (WFm.po hM) hs93) hs93)) mdy)
                  refine x_iload_n C 5 rfl rfl dX12_apart_117 ?_
                  have LP126 : ∀ (s0_126 : Int), (s0_126 = (if Ct.allW (Lc mh mn mdy mkd mfg mag mpo mwy) < Ct.allW (Lc mh mn mdy mkd mfg mag (upz (upz mpo (m : Int) s0_93) ((m : Int) + 1 + (k : Int)) s0_93) mwy) then 1 else 0)) → Wx X 0 0 (WM X.γ a mh mn mkd mfg mag (upz (upz mpo (m : Int) s0_93) ((m : Int) + 1 + (k : Int)) s0_93) mwy mdy mhw mkk mkf mrs mrm mrw 0 0 (Ct.g (Lc mh mn mdy mkd mfg mag (upz (upz mpo (m : Int) s0_93) ((m : Int) + 1 + (k : Int)) s0_93) mwy)) (Ct.w (Lc mh mn mdy mkd mfg mag (upz (upz mpo (m : Int) s0_93) ((m : Int) + 1 + (k : Int)) s0_93) mwy)) mre mpl mib msn mpn mlo mtl (pck mh mn mdy mkd mfg mag mpo mwy) mim mhi 47 1 (.ref (a 18)) mun msd mbe) 126 [(7, .int (iN (s0_93))), (6, .int (iN ((m : Int) + 1 + (k : Int)))), (5, .int (iN ((m : Int)))), (4, .int (iN (v4_46))), (3, .int (iN (v3_46))), (2, .int (iN (Ct.allW (Lc mh mn mdy mkd mfg mag mpo mwy)))), (0, .ref (a 0)), (1, .int (iN (w)))] [.int (iN (s0_126))] := by
                    intro s0_126 es0_126
                    refine x_istore C [(8, .int (iN (s0_126))), (7, .int (iN (s0_93))), (6, .int (iN ((m : Int) + 1 + (k : Int)))), (5, .int (iN ((m : Int)))), (4, .int (iN (v4_46))), (3, .int (iN (v3_46))), (2, .int (iN (Ct.allW (Lc mh mn mdy mkd mfg mag mpo mwy)))), (0, .ref (a 0)), (1, .int (iN (w)))] (by decide) rfl dX12_apart_126 ?_
                    refine x_aload_n C 7 rfl rfl dX12_apart_128 ?_
                    refine x_V_V C (As := []) (rest := []) 0 0 rfl rfl gX12_apart_X12_close rfl (c_X12_close _ _ a mh mn mkd mfg mag (upz (upz mpo (m : Int) s0_93) ((m : Int) + 1 + (k : Int)) s0_93) mwy mdy mhw mkk mkf mrs mrm mrw 0 0 (Ct.g (Lc mh mn mdy mkd mfg mag (upz (upz mpo (m : Int) s0_93) ((m : Int) + 1 + (k : Int)) s0_93) mwy)) (Ct.w (Lc mh mn mdy mkd mfg mag (upz (upz mpo (m : Int) s0_93) ((m : Int) + 1 + (k : Int)) s0_93) mwy)) mre mpl mib msn mpn mlo mtl mim mhi 47 1 (.ref (a 18)) mun msd mbe mh mn mdy mkd mfg mag mpo mwy) rfl ok_X12_close rfl rfl rfl rfl dX12_apart_129 (fun w1 hp => ?_)
                    obtain rfl := hp
                    refine x_iload_n C 5 rfl rfl dX12_apart_132 ?_
                    refine x_iload C 0 rfl dX12_apart_133 ?_
                    have LP143 : ∀ (s0_143 : Int), (s0_143 = (if s0_126 = 0 then 0 else 1)) → Wx X 0 0 (WM X.γ a mh mn mkd mfg mag mpo mwy mdy mhw mkk mkf mrs mrm mrw 0 0 (Ct.g (Lc mh mn mdy mkd mfg mag (upz (upz mpo (m : Int) s0_93) ((m : Int) + 1 + (k : Int)) s0_93) mwy)) (Ct.w (Lc mh mn mdy mkd mfg mag (upz (upz mpo (m : Int) s0_93) ((m : Int) + 1 + (k : Int)) s0_93) mwy)) mre mpl mib msn mpn mlo mtl (pck mh mn mdy mkd mfg mag mpo mwy) mim mhi 47 0 (.ref (a 18)) mun msd mbe) 143 [(8, .int (iN (s0_126))), (7, .int (iN (s0_93))), (6, .int (iN ((m : Int) + 1 + (k : Int)))), (5, .int (iN ((m : Int)))), (4, .int (iN (v4_46))), (3, .int (iN (v3_46))), (2, .int (iN (Ct.allW (Lc mh mn mdy mkd mfg mag mpo mwy)))), (0, .ref (a 0)), (1, .int (iN (w)))] [.int (iN (s0_143)), .int (iN (v3_46))] := by
                      intro s0_143 es0_143
                      refine x_iadd C dX12_apart_143 ?_
                      refine x_istore_n C [(3, .int (iN (v3_46 + s0_143))), (8, .int (iN (s0_126))), (7, .int (iN (s0_93))), (6, .int (iN ((m : Int) + 1 + (k : Int)))), (5, .int (iN ((m : Int)))), (4, .int (iN (v4_46))), (2, .int (iN (Ct.allW (Lc mh mn mdy mkd mfg mag mpo mwy)))), (0, .ref (a 0)), (1, .int (iN (w)))] rfl (by decide) rfl dX12_apart_144 ?_
                      refine x_iload C 1 rfl dX12_apart_145 ?_
                      have LP168 : ∀ (s0_168 : Int), (s0_168 = (if s0_126 ≠ 0 ∧ v4_46 < 0 then 10 * (m : Int) + ((m : Int) + 1 + (k : Int)) else v4_46)) → Wx X 0 0 (WM X.γ a mh mn mkd mfg mag mpo mwy mdy mhw mkk mkf mrs mrm mrw 0 0 (Ct.g (Lc mh mn mdy mkd mfg mag (upz (upz mpo (m : Int) s0_93) ((m : Int) + 1 + (k : Int)) s0_93) mwy)) (Ct.w (Lc mh mn mdy mkd mfg mag (upz (upz mpo (m : Int) s0_93) ((m : Int) + 1 + (k : Int)) s0_93) mwy)) mre mpl mib msn mpn mlo mtl (pck mh mn mdy mkd mfg mag mpo mwy) mim mhi 47 0 (.ref (a 18)) mun msd mbe) 168 [(3, .int (iN (v3_46 + s0_143))), (8, .int (iN (s0_126))), (7, .int (iN (s0_93))), (6, .int (iN ((m : Int) + 1 + (k : Int)))), (5, .int (iN ((m : Int)))), (4, .int (iN (v4_46))), (2, .int (iN (Ct.allW (Lc mh mn mdy mkd mfg mag mpo mwy)))), (0, .ref (a 0)), (1, .int (iN (w)))] [.int (iN (s0_168))] := by
                        intro s0_168 es0_168
                        refine x_istore C [(4, .int (iN (s0_168))), (3, .int (iN (v3_46 + s0_143))), (8, .int (iN (s0_126))), (7, .int (iN (s0_93))), (6, .int (iN ((m : Int) + 1 + (k : Int)))), (5, .int (iN ((m : Int)))), (2, .int (iN (Ct.allW (Lc mh mn mdy mkd mfg mag mpo mwy)))), (0, .ref (a 0)), (1, .int (iN (w)))] (by decide) rfl dX12_apart_168 ?_
                        refine x_iinc C 4 [(6, .int (iN (((m : Int) + 1 + (k : Int)) + 1))), (4, .int (iN (s0_168))), (3, .int (iN (v3_46 + s0_143))), (8, .int (iN (s0_126))), (7, .int (iN (s0_93))), (5, .int (iN ((m : Int)))), (2, .int (iN (Ct.allW (Lc mh mn mdy mkd mfg mag mpo mwy)))), (0, .ref (a 0)), (1, .int (iN (w)))] rfl rfl (by decide) rfl dX12_apart_170 ?_
                        refine x_goto C 46 (by decide) dX12_apart_173 ?_
                        refine Wx.subL [0, 5, 1, 2, 6, 7, 8] rfl ?_
                        exact ih46 (k + 1) (Ct.g (Lc mh mn mdy mkd mfg mag (upz (upz mpo (m : Int) s0_93) ((m : Int) + 1 + (k : Int)) s0_93) mwy)) (pck mh mn mdy mkd mfg mag mpo mwy) (47) (0) ((.ref (a 18))) (Ct.w (Lc mh mn mdy mkd mfg mag (upz (upz mpo (m : Int) s0_93) ((m : Int) + 1 + (k : Int)) s0_93) mwy)) _ _ _ (by omega) (by omega) (by omega) (by have hsw : apz (Lc mh mn mdy mkd mfg mag mpo mwy) (m : Int) ((m : Int) + 1 + (k : Int)) = Ct.allW (Lc mh mn mdy mkd mfg mag (upz (upz mpo (m : Int) s0_93) ((m : Int) + 1 + (k : Int)) s0_93) mwy) := (by rw [es0_93]; rfl); simp only [apr]; rw [es0_168, ← e4_46, hsw]; omega) (by have hsw : apz (Lc mh mn mdy mkd mfg mag mpo mwy) (m : Int) ((m : Int) + 1 + (k : Int)) = Ct.allW (Lc mh mn mdy mkd mfg mag (upz (upz mpo (m : Int) s0_93) ((m : Int) + 1 + (k : Int)) s0_93) mwy) := (by rw [es0_93]; rfl); simp only [apn]; rw [hsw]; omega)
                      refine x_if_eq C 166 (by decide) (by omega) dX12_apart_147 (fun c_147 => ?_) (fun c_147 => ?_)
                      · refine x_iload C 5 rfl dX12_apart_166 ?_
                        exact LP168 _ (by omega)
                      · refine x_iload C 5 rfl dX12_apart_150 ?_
                        refine x_if_ge C 166 (by decide) (by omega) dX12_apart_152 (fun c_152 => ?_) (fun c_152 => ?_)
                        · refine x_iload C 5 rfl dX12_apart_166 ?_
                          exact LP168 _ (by omega)
                        · refine x_bipush C (10) (by decide) dX12_apart_155 ?_
                          refine x_iload C 4 rfl dX12_apart_157 ?_
                          refine x_imul C dX12_apart_159 ?_
                          refine x_iload C 3 rfl dX12_apart_160 ?_
                          refine x_iadd C dX12_apart_162 ?_
                          refine x_goto C 168 (by decide) dX12_apart_163 ?_
                          exact LP168 _ (by omega)
                    refine x_if_eq C 142 (by decide) (by omega) dX12_apart_135 (fun c_135 => ?_) (fun c_135 => ?_)
                    · refine x_iconst (v := 0) C dX12_apart_142 ?_
                      exact LP143 _ (by omega)
                    · refine x_iconst (v := 0) C dX12_apart_138 ?_
                      refine x_goto C 143 (by decide) dX12_apart_139 ?_
                      exact LP143 _ (by omega)
                  refine x_icmp_le C 125 (by decide) (by omega) dX12_apart_118 (fun c_118 => ?_) (fun c_118 => ?_)
                  · refine x_iconst (v := 0) C dX12_apart_125 ?_
                    exact LP126 _ (by omega)
                  · refine x_iconst (v := 0) C dX12_apart_121 ?_
                    refine x_goto C 126 (by decide) dX12_apart_122 ?_
                    exact LP126 _ (by omega)
                refine x_icmp_ge C 86 (by decide) (by omega) dX12_apart_73 (fun c_73 => ?_) (fun c_73 => ?_)
                · refine x_aload_n C 5 rfl rfl dX12_apart_86 ?_
                  refine x_get C in_X12_apart_X12 0 rfl rfl 5 (by decide) (List.mem_of_getElem? (i := 3) rfl) rfl (v := .ref (a 5)) rfl dX12_apart_87 ?_
                  refine x_iload C 0 rfl dX12_apart_90 ?_
                  refine x_iaload C (f := mpo) 5 rfl (by omega) rfl dX12_apart_92 ?_
                  have b132 := WFm.po hM ((m : Int) + 1 + (k : Int))
                  exact LP93 _ (by omega)
                · refine x_aload_n C 5 rfl rfl dX12_apart_76 ?_
                  refine x_get C in_X12_apart_X12 0 rfl rfl 5 (by decide) (List.mem_of_getElem? (i := 3) rfl) rfl (v := .ref (a 5)) rfl dX12_apart_77 ?_
                  refine x_iload C 1 rfl dX12_apart_80 ?_
                  refine x_iaload C (f := mpo) 5 rfl (by omega) rfl dX12_apart_82 ?_
                  have b133 := WFm.po hM ((m : Int))
                  refine x_goto C 93 (by decide) dX12_apart_83 ?_
                  exact LP93 _ (by omega)
          exact LP46 ((mn.toNat - (m + 1) - (0)) + 1) (0) (G) (KE) (P0) (TK) (KY) (WA) _ _ _ (by omega) (by omega) (by omega) (rfl) (by show _ = v3_31 + 0; omega)
    exact LP31 ((mn.toNat - (0)) + 1) (0) (Ct.g (Lc mh mn mdy mkd mfg mag mpo mwy)) (mke) (mp0) (mtk) (mki) (Ct.w (Lc mh mn mdy mkd mfg mag mpo mwy)) _ _ _ (by omega) (by omega) (by omega) (rfl) (rfl)
  · refine x_iconst (v := 0) C dX12_apart_15 ?_
    exact hret _ _ _ _ dX12_apart_16 rfl ⟨(by unfold q_apart; rw [if_neg (show ¬ (0 ≤ w ∧ w ≤ 1) by omega)]), Wk.mk⟩
end HAPA
