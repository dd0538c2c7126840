section HSM2ai
theorem in_X12_row_X12 : ∀ w ∈ u_ws RX12 TX12 34, w ∈ wsX12_row := by decide +kernel
theorem ok_X12_row : okY yX12_row 3 := by decide +kernel
def rmX12_row : Room := { frames := 1, cells := 0, slots := 0, locals := 25 }
set_option maxRecDepth 100000 in
set_option maxHeartbeats 400000 in
theorem c_X12_row (l : Launch) (γ : GX) (a : Nat → Nat) (mh : Int → Int) (mn : Int) (mkd : Int → Int) (mfg : Int → Int) (mag : Int → Int) (mpo : Int → Int) (mwy : Int → Int) (mdy : Int) (mhw : Int → Int) (mkk : Int → Int) (mkf : Int → Int) (mrs : Int → Int) (mrm : Int → Int) (mrw : Int → Int) (mth : Int) (mgr : Int → Int) (mwa : Int → Int) (mre : Int) (mpl : Int) (mib : Int) (msn : Int) (mpn : Int → Int) (mlo : Int → Int) (mtl : Int → Int) (mke : Int → Int) (mim : Int → Int) (mhi : Int) (mp0 : Int) (mtk : Int) (mki : Value) (mun : Int → Int) (msd : Int) (mbe : Int → Int) (hM : WFm mn mh mkd mfg mag mpo mwy mhw mkk mkf mrs mrm mrw) (d : Int) (so : Int) (m : Int) (h0_ : -2147483648 ≤ d ∧ d < 2147483648) (h1_ : -2147483648 ≤ so ∧ so < 2147483648) (h2_ : -2147483648 ≤ m ∧ m < 2147483648) : MI l γ yX12_row wsX12_row rmX12_row [.ref (a 0), .int (iN (d)), .int (iN (so)), .int (iN (m))] (WM γ a mh mn mkd mfg mag mpo mwy mdy mhw mkk mkf mrs mrm mrw mth 0 mgr mwa mre mpl mib msn mpn mlo mtl mke mim mhi mp0 mtk mki mun msd mbe) (fun r_ w_ => (((0 ≤ d ∧ d ≤ 7) ∧ (0 ≤ so ∧ so ≤ 2) ∧ m ≤ 100) ∧ 0 ≤ m ∧ r_ = 0 ∧ Wk γ a mh mn mkd mfg mag mpo mwy mdy (upz mhw d 2) mkk mkf (upz mrs d so) (upz mrm d m) (cpz (fun _ => 0) mrw 0 (100 * d) 100) 0 mim mhi w_) ∨ (((0 ≤ d ∧ d ≤ 7) ∧ (0 ≤ so ∧ so ≤ 2) ∧ m ≤ 100) ∧ m < 0 ∧ r_ = -14 ∧ Wk γ a mh mn mkd mfg mag mpo mwy mdy mhw mkk mkf mrs mrm mrw 0 mim mhi w_) ∨ (¬ ((0 ≤ d ∧ d ≤ 7) ∧ (0 ≤ so ∧ so ≤ 2) ∧ m ≤ 100) ∧ r_ = -1 ∧ Wk γ a mh mn mkd mfg mag mpo mwy mdy mhw mkk mkf mrs mrm mrw 0 mim mhi w_)) 0 0 := by
  refine MI.of (cc := cX12_row) (maxL := 5) (rt := .int) RX12 rfl (by decide +kernel) rfl (Nat.le_of_ble_eq_true rfl) ?_
  intro X C hγ hl hnm hret
  subst hγ
  have hMn := WFm.n hM
  show Wx X 0 0 (WM X.γ a mh mn mkd mfg mag mpo mwy mdy mhw mkk mkf mrs mrm mrw mth 0 mgr mwa mre mpl mib msn mpn mlo mtl mke mim mhi mp0 mtk mki mun msd mbe) 0 [(0, .ref (a 0)), (1, .int (iN (d))), (2, .int (iN (so))), (3, .int (iN (m)))] []
  refine x_aload_n C 0 rfl rfl dX12_row_0 ?_
  refine x_iconst (v := 0) C dX12_row_1 ?_
  refine x_put C in_X12_row_X12 tyX12 tyX12_ok nmX12 0 rfl rfl 14 (by decide) (List.mem_of_getElem? (i := 1) rfl) rfl rfl rfl rfl rfl (Nat.le_of_ble_eq_true rfl) (WM X.γ a mh mn mkd mfg mag mpo mwy mdy mhw mkk mkf mrs mrm mrw 0 0 mgr mwa mre mpl mib msn mpn mlo mtl mke mim mhi mp0 mtk mki mun msd mbe) rfl dX12_row_2 ?_
  refine x_iload_n C 1 rfl rfl dX12_row_5 ?_
  refine x_i2l C (by omega) dX12_row_6 ?_
  refine x_lconst C 0 rfl dX12_row_7 ?_
  refine x_ldc2 C (7) (List.mem_of_getElem? (i := 2) rfl) (by decide) dX12_row_8 ?_
  refine x_S_I C (As := [.long (jN (d)), .long (jN (0)), .long (jN (7))]) (rest := []) 3 gX12_row_X12_in (c_X12_in _ _ (WM X.γ a mh mn mkd mfg mag mpo mwy mdy mhw mkk mkf mrs mrm mrw 0 0 mgr mwa mre mpl mib msn mpn mlo mtl mke mim mhi mp0 mtk mki mun msd mbe) (d) (0) (7) (by omega) (by omega) (by omega)) rfl ok_X12_in rfl rfl rfl rfl dX12_row_11 (fun r w1 hp => ?_)
  obtain ⟨rfl, rfl⟩ := hp
  refine x_ifeq_bz C 35 (by decide) dX12_row_14 (fun c_14 => ?_) (fun c_14 => ?_)
  · refine x_iconst (v := 0) C dX12_row_35 ?_
    exact hret _ _ _ _ dX12_row_36 rfl (Or.inr (Or.inr ⟨(by omega), rfl, Wk.mk⟩))
  · refine x_iload_n C 2 rfl rfl dX12_row_17 ?_
    refine x_i2l C (by omega) dX12_row_18 ?_
    refine x_lconst C 0 rfl dX12_row_19 ?_
    refine x_ldc2 C (2) (List.mem_of_getElem? (i := 3) rfl) (by decide) dX12_row_20 ?_
    refine x_S_I C (As := [.long (jN (so)), .long (jN (0)), .long (jN (2))]) (rest := []) 3 gX12_row_X12_in (c_X12_in _ _ (WM X.γ a mh mn mkd mfg mag mpo mwy mdy mhw mkk mkf mrs mrm mrw 0 0 mgr mwa mre mpl mib msn mpn mlo mtl mke mim mhi mp0 mtk mki mun msd mbe) (so) (0) (2) (by omega) (by omega) (by omega)) rfl ok_X12_in rfl rfl rfl rfl dX12_row_23 (fun r w1 hp => ?_)
    obtain ⟨rfl, rfl⟩ := hp
    refine x_ifeq_bz C 35 (by decide) dX12_row_26 (fun c_26 => ?_) (fun c_26 => ?_)
    · refine x_iconst (v := 0) C dX12_row_35 ?_
      exact hret _ _ _ _ dX12_row_36 rfl (Or.inr (Or.inr ⟨(by omega), rfl, Wk.mk⟩))
    · refine x_iload_n C 3 rfl rfl dX12_row_29 ?_
      refine x_bipush C (100) (by decide) dX12_row_30 ?_
      refine x_icmp_le C 37 (by decide) (by omega) dX12_row_32 (fun c_32 => ?_) (fun c_32 => ?_)
      · refine x_iload_n C 3 rfl rfl dX12_row_37 ?_
        refine x_if_ge C 44 (by decide) (by omega) dX12_row_38 (fun c_38 => ?_) (fun c_38 => ?_)
        · refine x_aload_n C 0 rfl rfl dX12_row_44 ?_
          refine x_get C in_X12_row_X12 0 rfl rfl 8 (by decide) (List.mem_of_getElem? (i := 4) rfl) rfl (v := .ref (a 7)) rfl dX12_row_45 ?_
          refine x_iload_n C 1 rfl rfl dX12_row_48 ?_
          refine x_iconst (v := 0) C dX12_row_49 ?_
          refine x_iastore C (f := mhw) 7 rfl (by omega) rfl (WM X.γ a mh mn mkd mfg mag mpo mwy mdy (upz mhw d 2) mkk mkf mrs mrm mrw 0 0 mgr mwa mre mpl mib msn mpn mlo mtl mke mim mhi mp0 mtk mki mun msd mbe) rfl dX12_row_50 ?_
          refine x_aload_n C 0 rfl rfl dX12_row_51 ?_
          refine x_get C in_X12_row_X12 0 rfl rfl 11 (by decide) (List.mem_of_getElem? (i := 5) rfl) rfl (v := .ref (a 10)) rfl dX12_row_52 ?_
          refine x_iload_n C 1 rfl rfl dX12_row_55 ?_
          refine x_iload_n C 2 rfl rfl dX12_row_56 ?_
          refine x_iastore C (f := mrs) 10 rfl (by omega) rfl (WM X.γ a mh mn mkd mfg mag mpo mwy mdy (upz mhw d 2) mkk mkf (upz mrs d so) mrm mrw 0 0 mgr mwa mre mpl mib msn mpn mlo mtl mke mim mhi mp0 mtk mki mun msd mbe) rfl dX12_row_57 ?_
          refine x_aload_n C 0 rfl rfl dX12_row_58 ?_
          refine x_get C in_X12_row_X12 0 rfl rfl 12 (by decide) (List.mem_of_getElem? (i := 6) rfl) rfl (v := .ref (a 11)) rfl dX12_row_59 ?_
          refine x_iload_n C 1 rfl rfl dX12_row_62 ?_
          refine x_iload_n C 3 rfl rfl dX12_row_63 ?_
          refine x_iastore C (f := mrm) 11 rfl (by omega) rfl (WM X.γ a mh mn mkd mfg mag mpo mwy mdy (upz mhw d 2) mkk mkf (upz mrs d so) (upz mrm d m) mrw 0 0 mgr mwa mre mpl mib msn mpn mlo mtl mke mim mhi mp0 mtk mki mun msd mbe) rfl dX12_row_64 ?_
          refine x_iconst (v := 0) C dX12_row_65 ?_
          refine x_istore C [(4, .int (iN (0))), (0, .ref (a 0)), (1, .int (iN (d))), (2, .int (iN (so))), (3, .int (iN (m)))] (by decide) rfl dX12_row_66 ?_
          have LP68 : ∀ (f : Nat) (k : Nat) (v4_68 : Int), (100 - k < f) → (k ≤ 100) → (((k : Int)) = v4_68) → Wx X 0 0 (WM X.γ a mh mn mkd mfg mag mpo mwy mdy (upz mhw d 2) mkk mkf (upz mrs d so) (upz mrm d m) (cpz (fun _ => 0) mrw 0 (100 * d) (k : Int)) 0 0 mgr mwa mre mpl mib msn mpn mlo mtl mke mim mhi mp0 mtk mki mun msd mbe) 68 [(4, .int (iN (v4_68))), (0, .ref (a 0)), (1, .int (iN (d))), (2, .int (iN (so))), (3, .int (iN (m)))] [] := by
            intro f
            induction f with
            | zero => intro k v4_68 hf; exact absurd hf (Nat.not_lt_zero _)
            | succ f ih68 =>
              intro k v4_68 hf hk e4_68
              subst e4_68
              refine x_iload C 0 rfl dX12_row_68 ?_
              refine x_bipush C (100) (by decide) dX12_row_70 ?_
              refine x_icmp_ge C 94 (by decide) (by omega) dX12_row_72 (fun c_72 => ?_) (fun c_72 => ?_)
              · refine Wx.eqW (ws' := (WM X.γ a mh mn mkd mfg mag mpo mwy mdy (upz mhw d 2) mkk mkf (upz mrs d so) (upz mrm d m) (cpz (fun _ => 0) mrw 0 (100 * d) 100) 0 0 mgr mwa mre mpl mib msn mpn mlo mtl mke mim mhi mp0 mtk mki mun msd mbe)) (by rw [show ((k : Nat) : Int) = 100 by omega]) ?_
                refine x_iconst (v := 0) C dX12_row_94 ?_
                exact hret _ _ _ _ dX12_row_95 rfl (Or.inl ⟨(by omega), (by omega), rfl, Wk.mk⟩)
              · refine x_aload_n C 1 rfl rfl dX12_row_75 ?_
                refine x_get C in_X12_row_X12 0 rfl rfl 13 (by decide) (List.mem_of_getElem? (i := 7) rfl) rfl (v := .ref (a 12)) rfl dX12_row_76 ?_
                refine x_bipush C (100) (by decide) dX12_row_79 ?_
                refine x_iload_n C 2 rfl rfl dX12_row_81 ?_
                refine x_imul C dX12_row_82 ?_
                refine x_iload C 0 rfl dX12_row_83 ?_
                refine x_iadd C dX12_row_85 ?_
                refine x_lconst C 0 rfl dX12_row_86 ?_
                refine x_lastore C (f := (cpz (fun _ => 0) mrw 0 (100 * d) (k : Int))) 12 rfl (by omega) rfl (WM X.γ a mh mn mkd mfg mag mpo mwy mdy (upz mhw d 2) mkk mkf (upz mrs d so) (upz mrm d m) (upz (cpz (fun _ => 0) mrw 0 (100 * d) (k : Int)) ((100 * d) + (k : Int)) 0) 0 0 mgr mwa mre mpl mib msn mpn mlo mtl mke mim mhi mp0 mtk mki mun msd mbe) rfl dX12_row_87 ?_
                refine x_iinc C 0 [(4, .int (iN ((k : Int) + 1))), (0, .ref (a 0)), (1, .int (iN (d))), (2, .int (iN (so))), (3, .int (iN (m)))] rfl rfl (by decide) rfl dX12_row_88 ?_
                refine x_goto C 68 (by decide) dX12_row_91 ?_
                refine Wx.eqW (ws' := (WM X.γ a mh mn mkd mfg mag mpo mwy mdy (upz mhw d 2) mkk mkf (upz mrs d so) (upz mrm d m) (cpz (fun _ => 0) mrw 0 (100 * d) ((k + 1 : Nat) : Int)) 0 0 mgr mwa mre mpl mib msn mpn mlo mtl mke mim mhi mp0 mtk mki mun msd mbe)) (by rw [cpz_s]) ?_
                exact ih68 (k + 1) _ (by omega) (by omega) (by omega)
          refine Wx.eqW (ws' := (WM X.γ a mh mn mkd mfg mag mpo mwy mdy (upz mhw d 2) mkk mkf (upz mrs d so) (upz mrm d m) (cpz (fun _ => 0) mrw 0 (100 * d) ((0 : Nat) : Int)) 0 0 mgr mwa mre mpl mib msn mpn mlo mtl mke mim mhi mp0 mtk mki mun msd mbe)) (by rw [cpz_0]) ?_
          exact LP68 ((100 - (0)) + 1) (0) _ (by omega) (by omega) (by omega)
        · refine x_bipush C (-14) (by decide) dX12_row_41 ?_
          exact hret _ _ _ _ dX12_row_43 rfl (Or.inr (Or.inl ⟨(by omega), (by omega), rfl, Wk.mk⟩))
      · refine x_iconst (v := 0) C dX12_row_35 ?_
        exact hret _ _ _ _ dX12_row_36 rfl (Or.inr (Or.inr ⟨(by omega), rfl, Wk.mk⟩))
end HSM2ai
