section HSM2ae
theorem in_X12_forged_X12 : ∀ w ∈ u_ws RX12 TX12 34, w ∈ wsX12_forged := by decide +kernel
theorem ok_X12_forged : okY yX12_forged 1 := by decide +kernel
def rmX12_forged : Room := { frames := 3, cells := 0, slots := 0, locals := 67 }
set_option maxRecDepth 100000 in
set_option maxHeartbeats 400000 in
theorem c_X12_forged (l : Launch) (γ : GX) (a : Nat → Nat) (mh : Int → Int) (mn : Int) (mkd : Int → Int) (mfg : Int → Int) (mag : Int → Int) (mpo : Int → Int) (mwy : Int → Int) (mdy : Int) (mhw : Int → Int) (mkk : Int → Int) (mkf : Int → Int) (mrs : Int → Int) (mrm : Int → Int) (mrw : Int → Int) (mth : Int) (mgr : Int → Int) (mwa : Int → Int) (mre : Int) (mpl : Int) (mib : Int) (msn : Int) (mpn : Int → Int) (mlo : Int → Int) (mtl : Int → Int) (mke : Int → Int) (mim : Int → Int) (mhi : Int) (mp0 : Int) (mtk : Int) (mki : Value) (mun : Int → Int) (msd : Int) (mbe : Int → Int) (hM : WFm mn mh mkd mfg mag mpo mwy mhw mkk mkf mrs mrm mrw) (d : Int) (h0_ : -2147483648 ≤ d ∧ d < 2147483648) : MI l γ yX12_forged wsX12_forged rmX12_forged [.ref (a 0), .int (iN (d))] (WM γ a mh mn mkd mfg mag mpo mwy mdy mhw mkk mkf mrs mrm mrw mth 0 mgr mwa mre mpl mib msn mpn mlo mtl mke mim mhi mp0 mtk mki mun msd mbe) (fun r_ w_ => r_ = q_wr d (mhw d) 2 (fstz (q_fg (Lc mh mn mdy mkd mfg mag mpo mwy) (fun t => mrw (100 * d + t))) (mrm d).toNat) ∧ Wk γ a mh mn mkd mfg mag mpo mwy mdy mhw mkk mkf mrs mrm mrw 0 mim mhi w_) 0 0 := by
  refine MI.of (cc := cX12_forged) (maxL := 4) (rt := .int) RX12 rfl (by decide +kernel) rfl (Nat.le_of_ble_eq_true rfl) ?_
  intro X C hγ hl hnm hret
  subst hγ
  have hMn := WFm.n hM
  have hrm := WFm.rm hM d
  show Wx X 0 0 (WM X.γ a mh mn mkd mfg mag mpo mwy mdy mhw mkk mkf mrs mrm mrw mth 0 mgr mwa mre mpl mib msn mpn mlo mtl mke mim mhi mp0 mtk mki mun msd mbe) 0 [(0, .ref (a 0)), (1, .int (iN (d)))] []
  refine x_aload_n C 0 rfl rfl dX12_forged_0 ?_
  refine x_iconst (v := 0) C dX12_forged_1 ?_
  refine x_put C in_X12_forged_X12 tyX12 tyX12_ok nmX12 0 rfl rfl 14 (by decide) (List.mem_of_getElem? (i := 1) rfl) rfl rfl rfl rfl rfl (Nat.le_of_ble_eq_true rfl) (WM X.γ a mh mn mkd mfg mag mpo mwy mdy mhw mkk mkf mrs mrm mrw 0 0 mgr mwa mre mpl mib msn mpn mlo mtl mke mim mhi mp0 mtk mki mun msd mbe) rfl dX12_forged_2 ?_
  refine x_aload_n C 0 rfl rfl dX12_forged_5 ?_
  refine x_iload_n C 1 rfl rfl dX12_forged_6 ?_
  refine x_V_I C (As := [.int (iN (d))]) (rest := []) 1 0 rfl rfl gX12_forged_X12_wrongRow rfl (c_X12_wrongRow _ _ a mh mn mkd mfg mag mpo mwy mdy mhw mkk mkf mrs mrm mrw 0 0 mgr mwa mre mpl mib msn mpn mlo mtl mke mim mhi mp0 mtk mki mun msd mbe hM (d) (by omega)) rfl ok_X12_wrongRow rfl rfl rfl rfl dX12_forged_7 (fun r w1 hp => ?_)
  obtain ⟨rfl, rfl⟩ := hp
  show Wx X 0 0 (WM X.γ a mh mn mkd mfg mag mpo mwy mdy mhw mkk mkf mrs mrm mrw 0 0 mgr mwa mre mpl mib msn mpn mlo mtl mke mim mhi mp0 mtk mki mun msd mbe) 10 [(0, .ref (a 0)), (1, .int (iN (d)))] [.int (iN (if 0 ≤ d ∧ d ≤ 7 then (if mhw d = 0 then -11 else if mhw d = 2 then 0 else -12) else -1))]
  refine x_istore_n C [(2, .int (iN (if 0 ≤ d ∧ d ≤ 7 then (if mhw d = 0 then -11 else if mhw d = 2 then 0 else -12) else -1))), (0, .ref (a 0)), (1, .int (iN (d)))] rfl (by decide) rfl dX12_forged_10 ?_
  refine x_iload_n C 0 rfl rfl dX12_forged_11 ?_
  refine x_if_ge C 17 (by decide) (by omega) dX12_forged_12 (fun c_12 => ?_) (fun c_12 => ?_)
  · refine x_aload_n C 1 rfl rfl dX12_forged_17 ?_
    refine x_V_V C (As := []) (rest := []) 0 0 rfl rfl gX12_forged_X12_layGround rfl (c_X12_layGround0 _ _ a mh mn mkd mfg mag mpo mwy mdy mhw mkk mkf mrs mrm mrw 0 mgr mwa mre mpl mib msn mpn mlo mtl mke mim mhi mp0 mtk mki mun msd mbe hM) rfl ok_X12_layGround rfl rfl rfl rfl dX12_forged_18 (fun w1 hp => ?_)
    obtain rfl := hp
    refine x_iconst (v := 0) C dX12_forged_21 ?_
    refine x_istore_n C [(3, .int (iN (0))), (2, .int (iN (if 0 ≤ d ∧ d ≤ 7 then (if mhw d = 0 then -11 else if mhw d = 2 then 0 else -12) else -1))), (0, .ref (a 0)), (1, .int (iN (d)))] rfl (by decide) rfl dX12_forged_22 ?_
    have LP23 : ∀ (f : Nat) (k : Nat) (v3_23 : Int), ((mrm d).toNat - k < f) → (k ≤ (mrm d).toNat) → (fstz (q_fg (Lc mh mn mdy mkd mfg mag mpo mwy) (fun t => mrw (100 * d + t))) k = -4) → (((k : Int)) = v3_23) → Wx X 0 0 (WM X.γ a mh mn mkd mfg mag mpo mwy mdy mhw mkk mkf mrs mrm mrw 0 0 (Ct.g (Lc mh mn mdy mkd mfg mag mpo mwy)) mwa mre mpl mib msn mpn mlo mtl mke mim mhi mp0 mtk mki mun msd mbe) 23 [(3, .int (iN (v3_23))), (2, .int (iN (if 0 ≤ d ∧ d ≤ 7 then (if mhw d = 0 then -11 else if mhw d = 2 then 0 else -12) else -1))), (0, .ref (a 0)), (1, .int (iN (d)))] [] := by
      intro f
      induction f with
      | zero => intro k v3_23 hf; exact absurd hf (Nat.not_lt_zero _)
      | succ f ih23 =>
        intro k v3_23 hf hk hf0 e3_23
        subst e3_23
        refine x_iload_n C 0 rfl rfl dX12_forged_23 ?_
        refine x_aload_n C 2 rfl rfl dX12_forged_24 ?_
        refine x_get C in_X12_forged_X12 0 rfl rfl 12 (by decide) (List.mem_of_getElem? (i := 2) rfl) rfl (v := .ref (a 11)) rfl dX12_forged_25 ?_
        refine x_iload_n C 3 rfl rfl dX12_forged_28 ?_
        refine x_iaload C (f := mrm) 11 rfl (by omega) rfl dX12_forged_29 ?_
        have b150 := WFm.rm hM (d)
        refine x_icmp_ge C 69 (by decide) (by omega) dX12_forged_30 (fun c_30 => ?_) (fun c_30 => ?_)
        · refine x_bipush C (-4) (by decide) dX12_forged_69 ?_
          exact hret _ _ _ _ dX12_forged_71 rfl ⟨(by unfold q_wr; rw [if_pos (show 0 ≤ d ∧ d ≤ 7 by omega), if_neg (show ¬ mhw d = 0 by omega), if_pos (show mhw d = 2 by omega)]; rw [show (mrm d).toNat = k by omega, hf0]), Wk.mk⟩
        · refine x_iload_n C 0 rfl rfl dX12_forged_33 ?_
          refine x_bipush C (14) (by decide) dX12_forged_34 ?_
          refine x_icmp_gt C 61 (by decide) (by omega) dX12_forged_36 (fun c_36 => ?_) (fun c_36 => ?_)
          · refine x_iload_n C 0 rfl rfl dX12_forged_61 ?_
            exact hret _ _ _ _ dX12_forged_62 rfl ⟨(by have e1 := fstz_f hf0 (show q_fg (Lc mh mn mdy mkd mfg mag mpo mwy) (fun t => mrw (100 * d + t)) k = 0 from if_neg (fun z => absurd z.1 (by omega))); unfold q_wr; rw [if_pos (show 0 ≤ d ∧ d ≤ 7 by omega), if_neg (show ¬ mhw d = 0 by omega), if_pos (show mhw d = 2 by omega)]; rw [fstz_end (q_fg (Lc mh mn mdy mkd mfg mag mpo mwy) (fun t => mrw (100 * d + t))) (k := k + 1) (by omega) (Or.inr (by rw [e1]; omega)), e1]), Wk.mk⟩
          · refine x_aload_n C 2 rfl rfl dX12_forged_39 ?_
            refine x_get C in_X12_forged_X12 0 rfl rfl 13 (by decide) (List.mem_of_getElem? (i := 3) rfl) rfl (v := .ref (a 12)) rfl dX12_forged_40 ?_
            refine x_bipush C (100) (by decide) dX12_forged_43 ?_
            refine x_iload_n C 3 rfl rfl dX12_forged_45 ?_
            refine x_imul C dX12_forged_46 ?_
            refine x_iload_n C 0 rfl rfl dX12_forged_47 ?_
            refine x_iadd C dX12_forged_48 ?_
            refine x_laload C (f := mrw) 12 rfl (by omega) rfl dX12_forged_49 ?_
            have b151 := WFm.rw hM ((100 * d) + (k : Int))
            refine x_aload_n C 2 rfl rfl dX12_forged_50 ?_
            refine x_get C in_X12_forged_X12 0 rfl rfl 16 (by decide) (List.mem_of_getElem? (i := 4) rfl) rfl (v := .ref (a 13)) rfl dX12_forged_51 ?_
            refine x_iload_n C 0 rfl rfl dX12_forged_54 ?_
            refine x_iaload C (f := (Ct.g (Lc mh mn mdy mkd mfg mag mpo mwy))) 13 rfl (by omega) rfl dX12_forged_55 ?_
            have b152 := WFc.g (WFm.L hM mdy) ((k : Int))
            refine x_i2l C (by omega) dX12_forged_56 ?_
            refine x_lcmp_eq C 63 (by decide) (by omega) dX12_forged_57 dX12_forged_58 (fun c_57 => ?_) (fun c_57 => ?_)
            · refine x_iinc C 0 [(3, .int (iN ((k : Int) + 1))), (2, .int (iN (if 0 ≤ d ∧ d ≤ 7 then (if mhw d = 0 then -11 else if mhw d = 2 then 0 else -12) else -1))), (0, .ref (a 0)), (1, .int (iN (d)))] rfl rfl (by decide) rfl dX12_forged_63 ?_
              refine x_goto C 23 (by decide) dX12_forged_66 ?_
              exact ih23 (k + 1) _ (by omega) (by omega) (fstz_p hf0 (show q_fg (Lc mh mn mdy mkd mfg mag mpo mwy) (fun t => mrw (100 * d + t)) k = 1 from if_pos ⟨by omega, c_57⟩)) (by omega)
            · refine x_iload_n C 0 rfl rfl dX12_forged_61 ?_
              exact hret _ _ _ _ dX12_forged_62 rfl ⟨(by have e1 := fstz_f hf0 (show q_fg (Lc mh mn mdy mkd mfg mag mpo mwy) (fun t => mrw (100 * d + t)) k = 0 from if_neg (fun z => c_57 z.2)); unfold q_wr; rw [if_pos (show 0 ≤ d ∧ d ≤ 7 by omega), if_neg (show ¬ mhw d = 0 by omega), if_pos (show mhw d = 2 by omega)]; rw [fstz_end (q_fg (Lc mh mn mdy mkd mfg mag mpo mwy) (fun t => mrw (100 * d + t))) (k := k + 1) (by omega) (Or.inr (by rw [e1]; omega)), e1]), Wk.mk⟩
    exact LP23 (((mrm d).toNat - (0)) + 1) (0) _ (by omega) (by omega) (rfl) (by omega)
  · refine x_iload_n C 0 rfl rfl dX12_forged_15 ?_
    exact hret _ _ _ _ dX12_forged_16 rfl ⟨(by unfold q_wr; omega), Wk.mk⟩
end HSM2ae
