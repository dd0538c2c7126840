section HKEE
theorem in_X12_keeps_X12 : ∀ w ∈ u_ws RX12 TX12 34, w ∈ wsX12_keeps := by decide +kernel
theorem ok_X12_keeps : okY yX12_keeps 0 := by decide +kernel
def rmX12_keeps : Room := { frames := 4, cells := 0, slots := 0, locals := 92 }
set_option maxRecDepth 100000 in
set_option maxHeartbeats 400000 in
theorem c_X12_keeps (l : Launch) (γ : GX) (a : Nat → Nat) (mh : Int → Int) (mn : Int) (mkd : Int → Int) (mfg : Int → Int) (mag : Int → Int) (mpo : Int → Int) (mwy : Int → Int) (mdy : Int) (mhw : Int → Int) (mkk : Int → Int) (mkf : Int → Int) (mrs : Int → Int) (mrm : Int → Int) (mrw : Int → Int) (mth : Int) (mgr : Int → Int) (mwa : Int → Int) (mre : Int) (mpl : Int) (mib : Int) (msn : Int) (mpn : Int → Int) (mlo : Int → Int) (mtl : Int → Int) (mke : Int → Int) (mim : Int → Int) (mhi : Int) (mp0 : Int) (mtk : Int) (mki : Value) (mun : Int → Int) (msd : Int) (mbe : Int → Int) (hM : WFm mn mh mkd mfg mag mpo mwy mhw mkk mkf mrs mrm mrw) : MI l γ yX12_keeps wsX12_keeps rmX12_keeps [.ref (a 0)] (WM γ a mh mn mkd mfg mag mpo mwy mdy mhw mkk mkf mrs mrm mrw mth 0 mgr mwa mre mpl mib msn mpn mlo mtl mke mim mhi mp0 mtk mki mun msd mbe) (fun r_ w_ => r_ = kpz (Lc mh mn mdy mkd mfg mag mpo mwy) (pw mn) ∧ Wk γ a mh mn mkd mfg mag mpo mwy mdy mhw mkk mkf mrs mrm mrw 0 mim mhi w_) 0 0 := by
  refine MI.of (cc := cX12_keeps) (maxL := 5) (rt := .int) RX12 rfl (by decide +kernel) rfl (Nat.le_of_ble_eq_true rfl) ?_
  intro X C hγ hl hnm hret
  subst hγ
  have hMn := WFm.n hM
  have bpw := pw_b hMn
  show Wx X 0 0 (WM X.γ a mh mn mkd mfg mag mpo mwy mdy mhw mkk mkf mrs mrm mrw mth 0 mgr mwa mre mpl mib msn mpn mlo mtl mke mim mhi mp0 mtk mki mun msd mbe) 0 [(0, .ref (a 0))] []
  refine x_aload_n C 0 rfl rfl dX12_keeps_0 ?_
  refine x_iconst (v := 0) C dX12_keeps_1 ?_
  refine x_put C in_X12_keeps_X12 tyX12 tyX12_ok nmX12 0 rfl rfl 14 (by decide) (List.mem_of_getElem? (i := 1) rfl) rfl rfl rfl rfl rfl (Nat.le_of_ble_eq_true rfl) (WM X.γ a mh mn mkd mfg mag mpo mwy mdy mhw mkk mkf mrs mrm mrw 0 0 mgr mwa mre mpl mib msn mpn mlo mtl mke mim mhi mp0 mtk mki mun msd mbe) rfl dX12_keeps_2 ?_
  refine x_iconst (v := 0) C dX12_keeps_5 ?_
  refine x_aload_n C 0 rfl rfl dX12_keeps_6 ?_
  refine x_get C in_X12_keeps_X12 0 rfl rfl 1 (by decide) (List.mem_of_getElem? (i := 2) rfl) rfl (v := .int (iN (mn))) rfl dX12_keeps_7 ?_
  refine x_ishl C ((pw mn : Nat) : Int) (iN_shlp hMn) dX12_keeps_10 ?_
  refine x_iconst (v := 0) C dX12_keeps_11 ?_
  refine x_isub C dX12_keeps_12 ?_
  refine x_istore_n C [(1, .int (iN (((pw mn : Nat) : Int) - 1))), (0, .ref (a 0))] rfl (by decide) rfl dX12_keeps_13 ?_
  refine x_bipush C (-4) (by decide) dX12_keeps_14 ?_
  refine x_istore_n C [(2, .int (iN (-4))), (1, .int (iN (((pw mn : Nat) : Int) - 1))), (0, .ref (a 0))] rfl (by decide) rfl dX12_keeps_16 ?_
  refine x_iconst (v := 0) C dX12_keeps_17 ?_
  refine x_istore_n C [(3, .int (iN (0))), (2, .int (iN (-4))), (1, .int (iN (((pw mn : Nat) : Int) - 1))), (0, .ref (a 0))] rfl (by decide) rfl dX12_keeps_18 ?_
  have LP19 : ∀ (f : Nat) (k : Nat) (G : Int → Int) (WA : Int → Int) (AW : Int) (v3_19 : Int) (v2_19 : Int), (pw mn - k < f) → (k ≤ pw mn) → (((k : Int)) = v3_19) → (v2_19 = (kpz (Lc mh mn mdy mkd mfg mag mpo mwy) k)) → Wx X 0 0 (WM X.γ a mh mn mkd mfg mag mpo mwy mdy mhw mkk mkf mrs mrm mrw 0 AW G WA mre mpl mib msn mpn mlo mtl mke mim mhi mp0 mtk mki mun msd mbe) 19 [(3, .int (iN (v3_19))), (2, .int (iN (v2_19))), (1, .int (iN (((pw mn : Nat) : Int) - 1))), (0, .ref (a 0))] [] := by
    intro f
    induction f with
    | zero => intro k G WA AW v3_19 v2_19 hf; exact absurd hf (Nat.not_lt_zero _)
    | succ f ih19 =>
      intro k G WA AW v3_19 v2_19 hf hk e3_19 e2_19
      subst e3_19
      have bc := kpz_b (Lc mh mn mdy mkd mfg mag mpo mwy) k
      refine x_iload_n C 0 rfl rfl dX12_keeps_19 ?_
      refine x_iload_n C 2 rfl rfl dX12_keeps_20 ?_
      refine x_icmp_gt C 79 (by decide) (by omega) dX12_keeps_21 (fun c_21 => ?_) (fun c_21 => ?_)
      · refine x_aload_n C 3 rfl rfl dX12_keeps_79 ?_
        refine x_iconst (v := 0) C dX12_keeps_80 ?_
        refine x_put C in_X12_keeps_X12 tyX12 tyX12_ok nmX12 0 rfl rfl 15 (by decide) (List.mem_of_getElem? (i := 3) rfl) rfl rfl rfl rfl rfl (Nat.le_of_ble_eq_true rfl) (WM X.γ a mh mn mkd mfg mag mpo mwy mdy mhw mkk mkf mrs mrm mrw 0 0 G WA mre mpl mib msn mpn mlo mtl mke mim mhi mp0 mtk mki mun msd mbe) rfl dX12_keeps_81 ?_
        refine x_iload_n C 1 rfl rfl dX12_keeps_84 ?_
        exact hret _ _ _ _ dX12_keeps_85 rfl ⟨(by rw [show pw mn = k by omega]; exact e2_19), Wk.mk⟩
      · refine x_iload_n C 1 rfl rfl dX12_keeps_24 ?_
        have LP44 : ∀ (s0_44 : Int), (s0_44 = (if v2_19 < 0 ∨ (pc6 v2_19.toNat : Int) < (pc6 k : Int) then 1 else 0)) → Wx X 0 0 (WM X.γ a mh mn mkd mfg mag mpo mwy mdy mhw mkk mkf mrs mrm mrw 0 AW G WA mre mpl mib msn mpn mlo mtl mke mim mhi mp0 mtk mki mun msd mbe) 44 [(3, .int (iN ((k : Int)))), (2, .int (iN (v2_19))), (1, .int (iN (((pw mn : Nat) : Int) - 1))), (0, .ref (a 0))] [.int (iN (s0_44))] := by
          intro s0_44 es0_44
          refine x_istore C [(4, .int (iN (s0_44))), (3, .int (iN ((k : Int)))), (2, .int (iN (v2_19))), (1, .int (iN (((pw mn : Nat) : Int) - 1))), (0, .ref (a 0))] (by decide) rfl dX12_keeps_44 ?_
          refine x_aload_n C 4 rfl rfl dX12_keeps_46 ?_
          refine x_iload_n C 3 rfl rfl dX12_keeps_47 ?_
          refine x_iload_n C 1 rfl rfl dX12_keeps_48 ?_
          refine x_iconst (v := 0) C dX12_keeps_49 ?_
          refine x_ixor C ((iN (k : Int) ^^^ iN (-1)).toInt) (iN_of _).symm dX12_keeps_50 ?_
          refine x_iand C (((pw mn : Nat) : Int) - 1 - (k : Int)) (by rw [iN_of]; exact kp_bits hMn (by omega)) dX12_keeps_51 ?_
          refine x_put C in_X12_keeps_X12 tyX12 tyX12_ok nmX12 0 rfl rfl 15 (by decide) (List.mem_of_getElem? (i := 3) rfl) rfl rfl rfl rfl rfl (Nat.le_of_ble_eq_true rfl) (WM X.γ a mh mn mkd mfg mag mpo mwy mdy mhw mkk mkf mrs mrm mrw 0 (((pw mn : Nat) : Int) - 1 - (k : Int)) G WA mre mpl mib msn mpn mlo mtl mke mim mhi mp0 mtk mki mun msd mbe) rfl dX12_keeps_52 ?_
          refine x_iload C 0 rfl dX12_keeps_55 ?_
          refine x_if_eq C 71 (by decide) (by omega) dX12_keeps_57 (fun c_57 => ?_) (fun c_57 => ?_)
          · refine x_iload_n C 2 rfl rfl dX12_keeps_71 ?_
            refine x_istore_n C [(2, .int (iN (v2_19))), (4, .int (iN (s0_44))), (3, .int (iN ((k : Int)))), (1, .int (iN (((pw mn : Nat) : Int) - 1))), (0, .ref (a 0))] rfl (by decide) rfl dX12_keeps_72 ?_
            refine x_iinc C 2 [(3, .int (iN ((k : Int) + 1))), (2, .int (iN (v2_19))), (4, .int (iN (s0_44))), (1, .int (iN (((pw mn : Nat) : Int) - 1))), (0, .ref (a 0))] rfl rfl (by decide) rfl dX12_keeps_73 ?_
            refine x_goto C 19 (by decide) dX12_keeps_76 ?_
            refine Wx.subL [0, 1, 3, 4] rfl ?_
            exact ih19 (k + 1) (G) (WA) (((pw mn : Nat) : Int) - 1 - (k : Int)) _ _ (by omega) (by omega) (by omega) (by rw [e2_19]; exact (kpz_n (by rw [← e2_19]; omega)).symm)
          · refine x_aload_n C 4 rfl rfl dX12_keeps_60 ?_
            refine x_V_I C (As := []) (rest := []) 0 0 rfl rfl gX12_keeps_X12_allWater rfl (c_X12_allWater _ _ a mh mn mkd mfg mag mpo mwy mdy mhw mkk mkf mrs mrm mrw 0 (((pw mn : Nat) : Int) - 1 - (k : Int)) G WA mre mpl mib msn mpn mlo mtl mke mim mhi mp0 mtk mki mun msd mbe (by omega) hM) rfl ok_X12_allWater rfl rfl rfl rfl dX12_keeps_61 (fun r w1 hp => ?_)
            obtain ⟨rfl, rfl⟩ := hp
            show Wx X 0 0 (WM X.γ a mh mn mkd mfg mag mpo mwy mdy mhw mkk mkf mrs mrm mrw 0 (((pw mn : Nat) : Int) - 1 - (k : Int)) (Ct.g (La mh mn mdy mkd mfg mag mpo mwy (((pw mn : Nat) : Int) - 1 - (k : Int)))) (Ct.w (La mh mn mdy mkd mfg mag mpo mwy (((pw mn : Nat) : Int) - 1 - (k : Int)))) mre mpl mib msn mpn mlo mtl mke mim mhi mp0 mtk mki mun msd mbe) 64 [(4, .int (iN (s0_44))), (3, .int (iN ((k : Int)))), (2, .int (iN (v2_19))), (1, .int (iN (((pw mn : Nat) : Int) - 1))), (0, .ref (a 0))] [.int (iN (Ct.allW (La mh mn mdy mkd mfg mag mpo mwy (((pw mn : Nat) : Int) - 1 - (k : Int)))))]
            have b177 := WFc.allW (WFm.La hM mdy (((pw mn : Nat) : Int) - 1 - (k : Int)))
            rw [show Ct.allW (La mh mn mdy mkd mfg mag mpo mwy (((pw mn : Nat) : Int) - 1 - (k : Int))) = Ct.allW (awy (Lc mh mn mdy mkd mfg mag mpo mwy) (((pw mn : Nat) : Int) - 1 - (k : Int))) from by rw [La_awy]]
            have bA : 0 ≤ Ct.allW (awy (Lc mh mn mdy mkd mfg mag mpo mwy) (((pw mn : Nat) : Int) - 1 - (k : Int))) ∧ Ct.allW (awy (Lc mh mn mdy mkd mfg mag mpo mwy) (((pw mn : Nat) : Int) - 1 - (k : Int))) ≤ 300 := by rw [← La_awy]; exact WFc.allW (WFm.La hM mdy (((pw mn : Nat) : Int) - 1 - (k : Int)))
            refine x_if_ne C 71 (by decide) (by omega) dX12_keeps_64 (fun c_64 => ?_) (fun c_64 => ?_)
            · refine x_iload_n C 2 rfl rfl dX12_keeps_71 ?_
              refine x_istore_n C [(2, .int (iN (v2_19))), (4, .int (iN (s0_44))), (3, .int (iN ((k : Int)))), (1, .int (iN (((pw mn : Nat) : Int) - 1))), (0, .ref (a 0))] rfl (by decide) rfl dX12_keeps_72 ?_
              refine x_iinc C 2 [(3, .int (iN ((k : Int) + 1))), (2, .int (iN (v2_19))), (4, .int (iN (s0_44))), (1, .int (iN (((pw mn : Nat) : Int) - 1))), (0, .ref (a 0))] rfl rfl (by decide) rfl dX12_keeps_73 ?_
              refine x_goto C 19 (by decide) dX12_keeps_76 ?_
              refine Wx.subL [0, 1, 3, 4] rfl ?_
              exact ih19 (k + 1) (Ct.g (La mh mn mdy mkd mfg mag mpo mwy (((pw mn : Nat) : Int) - 1 - (k : Int)))) (Ct.w (La mh mn mdy mkd mfg mag mpo mwy (((pw mn : Nat) : Int) - 1 - (k : Int)))) (((pw mn : Nat) : Int) - 1 - (k : Int)) _ _ (by omega) (by omega) (by omega) (by rw [e2_19]; exact (kpz_m c_64).symm)
            · refine x_iload_n C 1 rfl rfl dX12_keeps_67 ?_
              refine x_goto C 72 (by decide) dX12_keeps_68 ?_
              refine x_istore_n C [(2, .int (iN ((k : Int)))), (4, .int (iN (s0_44))), (3, .int (iN ((k : Int)))), (1, .int (iN (((pw mn : Nat) : Int) - 1))), (0, .ref (a 0))] rfl (by decide) rfl dX12_keeps_72 ?_
              refine x_iinc C 2 [(3, .int (iN ((k : Int) + 1))), (2, .int (iN ((k : Int)))), (4, .int (iN (s0_44))), (1, .int (iN (((pw mn : Nat) : Int) - 1))), (0, .ref (a 0))] rfl rfl (by decide) rfl dX12_keeps_73 ?_
              refine x_goto C 19 (by decide) dX12_keeps_76 ?_
              refine Wx.subL [0, 1, 3, 4] rfl ?_
              exact ih19 (k + 1) (Ct.g (La mh mn mdy mkd mfg mag mpo mwy (((pw mn : Nat) : Int) - 1 - (k : Int)))) (Ct.w (La mh mn mdy mkd mfg mag mpo mwy (((pw mn : Nat) : Int) - 1 - (k : Int)))) (((pw mn : Nat) : Int) - 1 - (k : Int)) _ _ (by omega) (by omega) (by omega) ((kpz_y (by rw [← e2_19]; omega) c_64).symm)
        refine x_if_lt C 39 (by decide) (by omega) dX12_keeps_25 (fun c_25 => ?_) (fun c_25 => ?_)
        · refine x_iconst (v := 0) C dX12_keeps_39 ?_
          refine x_goto C 44 (by decide) dX12_keeps_40 ?_
          exact LP44 _ (by omega)
        · refine x_iload_n C 0 rfl rfl dX12_keeps_28 ?_
          refine x_S_I C (As := [.int (iN ((k : Int)))]) (rest := []) 1 gX12_keeps_X12_onesOf (c_X12_onesOf _ _ (WM X.γ a mh mn mkd mfg mag mpo mwy mdy mhw mkk mkf mrs mrm mrw 0 AW G WA mre mpl mib msn mpn mlo mtl mke mim mhi mp0 mtk mki mun msd mbe) ((k : Int)) (by omega)) rfl ok_X12_onesOf rfl rfl rfl rfl dX12_keeps_29 (fun r w1 hp => ?_)
          obtain ⟨rfl, rfl⟩ := hp
          show Wx X 0 0 (WM X.γ a mh mn mkd mfg mag mpo mwy mdy mhw mkk mkf mrs mrm mrw 0 AW G WA mre mpl mib msn mpn mlo mtl mke mim mhi mp0 mtk mki mun msd mbe) 32 [(3, .int (iN ((k : Int)))), (2, .int (iN (v2_19))), (1, .int (iN (((pw mn : Nat) : Int) - 1))), (0, .ref (a 0))] [.int (iN ((pc6 ((k : Int)).toNat : Int)))]
          refine x_iload_n C 1 rfl rfl dX12_keeps_32 ?_
          refine x_S_I C (As := [.int (iN (v2_19))]) (rest := [.int (iN ((pc6 ((k : Int)).toNat : Int)))]) 1 gX12_keeps_X12_onesOf (c_X12_onesOf _ _ (WM X.γ a mh mn mkd mfg mag mpo mwy mdy mhw mkk mkf mrs mrm mrw 0 AW G WA mre mpl mib msn mpn mlo mtl mke mim mhi mp0 mtk mki mun msd mbe) (v2_19) (by omega)) rfl ok_X12_onesOf rfl rfl rfl rfl dX12_keeps_33 (fun r w1 hp => ?_)
          obtain ⟨rfl, rfl⟩ := hp
          show Wx X 0 0 (WM X.γ a mh mn mkd mfg mag mpo mwy mdy mhw mkk mkf mrs mrm mrw 0 AW G WA mre mpl mib msn mpn mlo mtl mke mim mhi mp0 mtk mki mun msd mbe) 36 [(3, .int (iN ((k : Int)))), (2, .int (iN (v2_19))), (1, .int (iN (((pw mn : Nat) : Int) - 1))), (0, .ref (a 0))] [.int (iN ((pc6 v2_19.toNat : Int))), .int (iN ((pc6 ((k : Int)).toNat : Int)))]
          rw [show (pc6 ((k : Int)).toNat : Int) = (pc6 k : Int) from by rw [Int.toNat_natCast]]
          have p61 : pc6 k ≤ 6 := by unfold pc6; omega
          have p62 : pc6 v2_19.toNat ≤ 6 := by unfold pc6; omega
          refine x_icmp_le C 43 (by decide) (by omega) dX12_keeps_36 (fun c_36 => ?_) (fun c_36 => ?_)
          · refine x_iconst (v := 0) C dX12_keeps_43 ?_
            exact LP44 _ (by omega)
          · refine x_iconst (v := 0) C dX12_keeps_39 ?_
            refine x_goto C 44 (by decide) dX12_keeps_40 ?_
            exact LP44 _ (by omega)
  exact LP19 ((pw mn - (0)) + 1) (0) (mgr) (mwa) (0) _ _ (by omega) (by omega) (by omega) (rfl)
end HKEE
