section HSM2an
theorem in_X12_toss_X12 : ∀ w ∈ u_ws RX12 TX12 34, w ∈ wsX12_toss := by decide +kernel
theorem ok_X12_toss : okY yX12_toss 1 := by decide +kernel
def rmX12_toss : Room := { frames := 2, cells := 0, slots := 0, locals := 46 }
set_option maxRecDepth 100000 in
set_option maxHeartbeats 400000 in
theorem c_X12_toss (l : Launch) (γ : GX) (a : Nat → Nat) (mh : Int → Int) (mn : Int) (mkd : Int → Int) (mfg : Int → Int) (mag : Int → Int) (mpo : Int → Int) (mwy : Int → Int) (mdy : Int) (mhw : Int → Int) (mkk : Int → Int) (mkf : Int → Int) (mrs : Int → Int) (mrm : Int → Int) (mrw : Int → Int) (mth : Int) (mgr : Int → Int) (mwa : Int → Int) (mre : Int) (mpl : Int) (mib : Int) (msn : Int) (mpn : Int → Int) (mlo : Int → Int) (mtl : Int → Int) (mke : Int → Int) (mim : Int → Int) (mhi : Int) (mp0 : Int) (mtk : Int) (mki : Value) (mun : Int → Int) (msd : Int) (mbe : Int → Int) (hM : WFm mn mh mkd mfg mag mpo mwy mhw mkk mkf mrs mrm mrw) (d : Int) (h0_ : -2147483648 ≤ d ∧ d < 2147483648) : MI l γ yX12_toss wsX12_toss rmX12_toss [.ref (a 0), .int (iN (d))] (WM γ a mh mn mkd mfg mag mpo mwy mdy mhw mkk mkf mrs mrm mrw mth 0 mgr mwa mre mpl mib msn mpn mlo mtl mke mim mhi mp0 mtk mki mun msd mbe) (fun r_ w_ => r_ = q_wr d (mhw d) 1 (q_ths (mkk d) (mkf d)) ∧ Wk γ a mh mn mkd mfg mag mpo mwy mdy mhw mkk mkf mrs mrm mrw 0 mim mhi w_) 0 0 := by
  refine MI.of (cc := cX12_toss) (maxL := 4) (rt := .int) RX12 rfl (by decide +kernel) rfl (Nat.le_of_ble_eq_true rfl) ?_
  intro X C hγ hl hnm hret
  subst hγ
  have hMn := WFm.n hM
  show Wx X 0 0 (WM X.γ a mh mn mkd mfg mag mpo mwy mdy mhw mkk mkf mrs mrm mrw mth 0 mgr mwa mre mpl mib msn mpn mlo mtl mke mim mhi mp0 mtk mki mun msd mbe) 0 [(0, .ref (a 0)), (1, .int (iN (d)))] []
  refine x_aload_n C 0 rfl rfl dX12_toss_0 ?_
  refine x_iconst (v := 0) C dX12_toss_1 ?_
  refine x_put C in_X12_toss_X12 tyX12 tyX12_ok nmX12 0 rfl rfl 14 (by decide) (List.mem_of_getElem? (i := 1) rfl) rfl rfl rfl rfl rfl (Nat.le_of_ble_eq_true rfl) (WM X.γ a mh mn mkd mfg mag mpo mwy mdy mhw mkk mkf mrs mrm mrw 0 0 mgr mwa mre mpl mib msn mpn mlo mtl mke mim mhi mp0 mtk mki mun msd mbe) rfl dX12_toss_2 ?_
  refine x_aload_n C 0 rfl rfl dX12_toss_5 ?_
  refine x_iload_n C 1 rfl rfl dX12_toss_6 ?_
  refine x_V_I C (As := [.int (iN (d))]) (rest := []) 1 0 rfl rfl gX12_toss_X12_wrongKept rfl (c_X12_wrongKept _ _ a mh mn mkd mfg mag mpo mwy mdy mhw mkk mkf mrs mrm mrw 0 0 mgr mwa mre mpl mib msn mpn mlo mtl mke mim mhi mp0 mtk mki mun msd mbe hM (d) (by omega)) rfl ok_X12_wrongKept rfl rfl rfl rfl dX12_toss_7 (fun r w1 hp => ?_)
  obtain ⟨rfl, rfl⟩ := hp
  show Wx X 0 0 (WM X.γ a mh mn mkd mfg mag mpo mwy mdy mhw mkk mkf mrs mrm mrw 0 0 mgr mwa mre mpl mib msn mpn mlo mtl mke mim mhi mp0 mtk mki mun msd mbe) 10 [(0, .ref (a 0)), (1, .int (iN (d)))] [.int (iN (if 0 ≤ d ∧ d ≤ 7 then (if mhw d = 0 then -11 else if mhw d = 1 then 0 else -12) else -1))]
  refine x_if_ge C 19 (by decide) (by omega) dX12_toss_10 (fun c_10 => ?_) (fun c_10 => ?_)
  · refine x_aload_n C 0 rfl rfl dX12_toss_19 ?_
    refine x_get C in_X12_toss_X12 0 rfl rfl 9 (by decide) (List.mem_of_getElem? (i := 2) rfl) rfl (v := .ref (a 8)) rfl dX12_toss_20 ?_
    refine x_iload_n C 1 rfl rfl dX12_toss_23 ?_
    refine x_iaload C (f := mkk) 8 rfl (by omega) rfl dX12_toss_24 ?_
    have b175 := WFm.kk hM (d)
    refine x_istore_n C [(2, .int (iN (mkk d))), (0, .ref (a 0)), (1, .int (iN (d)))] rfl (by decide) rfl dX12_toss_25 ?_
    refine x_aload_n C 1 rfl rfl dX12_toss_26 ?_
    refine x_get C in_X12_toss_X12 0 rfl rfl 10 (by decide) (List.mem_of_getElem? (i := 3) rfl) rfl (v := .ref (a 9)) rfl dX12_toss_27 ?_
    refine x_iload_n C 2 rfl rfl dX12_toss_30 ?_
    refine x_iaload C (f := mkf) 9 rfl (by omega) rfl dX12_toss_31 ?_
    have b176 := WFm.kf hM (d)
    refine x_istore_n C [(3, .int (iN (mkf d))), (2, .int (iN (mkk d))), (0, .ref (a 0)), (1, .int (iN (d)))] rfl (by decide) rfl dX12_toss_32 ?_
    refine x_iload_n C 1 rfl rfl dX12_toss_33 ?_
    refine x_iconst (v := 0) C dX12_toss_34 ?_
    refine x_icmp_eq C 47 (by decide) (by omega) dX12_toss_35 (fun c_35 => ?_) (fun c_35 => ?_)
    · refine x_bipush C (-15) (by decide) dX12_toss_47 ?_
      exact hret _ _ _ _ dX12_toss_49 rfl ⟨(by unfold q_wr; rw [if_pos (show 0 ≤ d ∧ d ≤ 7 by omega), if_neg (show ¬ mhw d = 0 by omega), if_pos (show mhw d = 1 by omega)]; unfold q_ths; rw [if_pos (show mkk d = 3 ∨ mkk d = 4 ∨ mkf d = 0 by omega)]), Wk.mk⟩
    · refine x_iload_n C 1 rfl rfl dX12_toss_38 ?_
      refine x_iconst (v := 0) C dX12_toss_39 ?_
      refine x_icmp_eq C 47 (by decide) (by omega) dX12_toss_40 (fun c_40 => ?_) (fun c_40 => ?_)
      · refine x_bipush C (-15) (by decide) dX12_toss_47 ?_
        exact hret _ _ _ _ dX12_toss_49 rfl ⟨(by unfold q_wr; rw [if_pos (show 0 ≤ d ∧ d ≤ 7 by omega), if_neg (show ¬ mhw d = 0 by omega), if_pos (show mhw d = 1 by omega)]; unfold q_ths; rw [if_pos (show mkk d = 3 ∨ mkk d = 4 ∨ mkf d = 0 by omega)]), Wk.mk⟩
      · refine x_iload_n C 0 rfl rfl dX12_toss_43 ?_
        refine x_if_ne C 50 (by decide) (by omega) dX12_toss_44 (fun c_44 => ?_) (fun c_44 => ?_)
        · refine x_iload_n C 1 rfl rfl dX12_toss_50 ?_
          refine x_iconst (v := 0) C dX12_toss_51 ?_
          refine x_icmp_ne C 62 (by decide) (by omega) dX12_toss_52 (fun c_52 => ?_) (fun c_52 => ?_)
          · refine x_iload_n C 1 rfl rfl dX12_toss_62 ?_
            refine x_iconst (v := 0) C dX12_toss_63 ?_
            refine x_icmp_ne C 79 (by decide) (by omega) dX12_toss_64 (fun c_64 => ?_) (fun c_64 => ?_)
            · refine x_iload_n C 0 rfl rfl dX12_toss_79 ?_
              exact hret _ _ _ _ dX12_toss_80 rfl ⟨(by unfold q_wr; rw [if_pos (show 0 ≤ d ∧ d ≤ 7 by omega), if_neg (show ¬ mhw d = 0 by omega), if_pos (show mhw d = 1 by omega)]; unfold q_ths; rw [if_neg (show ¬ (mkk d = 3 ∨ mkk d = 4 ∨ mkf d = 0) by omega)]; unfold faF; rw [if_neg (show ¬ mkk d = 1 by omega), if_neg (show ¬ mkk d = 5 by omega)]), Wk.mk⟩
            · refine x_sipush C (200) (by decide) dX12_toss_67 ?_
              refine x_iload_n C 1 rfl rfl dX12_toss_70 ?_
              refine x_iload_n C 0 rfl rfl dX12_toss_71 ?_
              refine x_S_I C (As := [.int (iN (mkk d)), .int (iN (mkf d))]) (rest := [.int (iN (200))]) 2 gX12_toss_X12_costOf (c_X12_costOf _ _ (WM X.γ a mh mn mkd mfg mag mpo mwy mdy mhw mkk mkf mrs mrm mrw 0 0 mgr mwa mre mpl mib msn mpn mlo mtl mke mim mhi mp0 mtk mki mun msd mbe) (mkk d) (mkf d) (by omega) (by omega)) rfl ok_X12_costOf rfl rfl rfl rfl dX12_toss_72 (fun r w1 hp => ?_)
              obtain ⟨rfl, rfl⟩ := hp
              show Wx X 0 0 (WM X.γ a mh mn mkd mfg mag mpo mwy mdy mhw mkk mkf mrs mrm mrw 0 0 mgr mwa mre mpl mib msn mpn mlo mtl mke mim mhi mp0 mtk mki mun msd mbe) 75 [(3, .int (iN (mkf d))), (2, .int (iN (mkk d))), (0, .ref (a 0)), (1, .int (iN (d)))] [.int (iN (coF (mkk d) (mkf d))), .int (iN (200))]
              refine x_iadd C dX12_toss_75 ?_
              refine x_goto C 80 (by decide) dX12_toss_76 ?_
              exact hret _ _ _ _ dX12_toss_80 rfl ⟨(by unfold q_wr; rw [if_pos (show 0 ≤ d ∧ d ≤ 7 by omega), if_neg (show ¬ mhw d = 0 by omega), if_pos (show mhw d = 1 by omega)]; unfold q_ths; rw [if_neg (show ¬ (mkk d = 3 ∨ mkk d = 4 ∨ mkf d = 0) by omega)]; unfold faF; rw [if_neg (show ¬ mkk d = 1 by omega), if_pos (show mkk d = 5 by omega), show mkk d = 5 by omega]), Wk.mk⟩
          · refine x_bipush C (100) (by decide) dX12_toss_55 ?_
            refine x_iload_n C 0 rfl rfl dX12_toss_57 ?_
            refine x_iadd C dX12_toss_58 ?_
            refine x_goto C 80 (by decide) dX12_toss_59 ?_
            exact hret _ _ _ _ dX12_toss_80 rfl ⟨(by unfold q_wr; rw [if_pos (show 0 ≤ d ∧ d ≤ 7 by omega), if_neg (show ¬ mhw d = 0 by omega), if_pos (show mhw d = 1 by omega)]; unfold q_ths; rw [if_neg (show ¬ (mkk d = 3 ∨ mkk d = 4 ∨ mkf d = 0) by omega)]; unfold faF; rw [if_pos (show mkk d = 1 by omega)]), Wk.mk⟩
        · refine x_bipush C (-15) (by decide) dX12_toss_47 ?_
          exact hret _ _ _ _ dX12_toss_49 rfl ⟨(by unfold q_wr; rw [if_pos (show 0 ≤ d ∧ d ≤ 7 by omega), if_neg (show ¬ mhw d = 0 by omega), if_pos (show mhw d = 1 by omega)]; unfold q_ths; rw [if_pos (show mkk d = 3 ∨ mkk d = 4 ∨ mkf d = 0 by omega)]), Wk.mk⟩
  · refine x_aload_n C 0 rfl rfl dX12_toss_13 ?_
    refine x_iload_n C 1 rfl rfl dX12_toss_14 ?_
    refine x_V_I C (As := [.int (iN (d))]) (rest := []) 1 0 rfl rfl gX12_toss_X12_wrongKept rfl (c_X12_wrongKept _ _ a mh mn mkd mfg mag mpo mwy mdy mhw mkk mkf mrs mrm mrw 0 0 mgr mwa mre mpl mib msn mpn mlo mtl mke mim mhi mp0 mtk mki mun msd mbe hM (d) (by omega)) rfl ok_X12_wrongKept rfl rfl rfl rfl dX12_toss_15 (fun r w1 hp => ?_)
    obtain ⟨rfl, rfl⟩ := hp
    show Wx X 0 0 (WM X.γ a mh mn mkd mfg mag mpo mwy mdy mhw mkk mkf mrs mrm mrw 0 0 mgr mwa mre mpl mib msn mpn mlo mtl mke mim mhi mp0 mtk mki mun msd mbe) 18 [(0, .ref (a 0)), (1, .int (iN (d)))] [.int (iN (if 0 ≤ d ∧ d ≤ 7 then (if mhw d = 0 then -11 else if mhw d = 1 then 0 else -12) else -1))]
    exact hret _ _ _ _ dX12_toss_18 rfl ⟨(by unfold q_wr; omega), Wk.mk⟩
end HSM2an
