section HSM2af
theorem in_X12_judge_X12 : ∀ w ∈ u_ws RX12 TX12 34, w ∈ wsX12_judge := by decide +kernel
theorem ok_X12_judge : okY yX12_judge 1 := by decide +kernel
def rmX12_judge : Room := { frames := 6, cells := 0, slots := 0, locals := 133 }
set_option maxRecDepth 100000 in
set_option maxHeartbeats 400000 in
theorem c_X12_judge (l : Launch) (γ : GX) (a : Nat → Nat) (mh : Int → Int) (mn : Int) (mkd : Int → Int) (mfg : Int → Int) (mag : Int → Int) (mpo : Int → Int) (mwy : Int → Int) (mdy : Int) (mhw : Int → Int) (mkk : Int → Int) (mkf : Int → Int) (mrs : Int → Int) (mrm : Int → Int) (mrw : Int → Int) (mth : Int) (mgr : Int → Int) (mwa : Int → Int) (mre : Int) (mpl : Int) (mib : Int) (msn : Int) (mpn : Int → Int) (mlo : Int → Int) (mtl : Int → Int) (mke : Int → Int) (mim : Int → Int) (mhi : Int) (mp0 : Int) (mtk : Int) (mki : Value) (mun : Int → Int) (msd : Int) (mbe : Int → Int) (hM : WFm mn mh mkd mfg mag mpo mwy mhw mkk mkf mrs mrm mrw) (d : Int) (h0_ : -2147483648 ≤ d ∧ d < 2147483648) : MI l γ yX12_judge wsX12_judge rmX12_judge [.ref (a 0), .int (iN (d))] (WM γ a mh mn mkd mfg mag mpo mwy mdy mhw mkk mkf mrs mrm mrw mth 0 mgr mwa mre mpl mib msn mpn mlo mtl mke mim mhi mp0 mtk mki mun msd mbe) (fun r_ w_ => r_ = q_wr d (mhw d) 2 (fstz (q_jd (Lc mh mn mdy mkd mfg mag mpo mwy) (mrs d) (fun t => mrw (100 * d + t))) (mrm d).toNat) ∧ Wk γ a mh mn mkd mfg mag mpo mwy mdy mhw mkk mkf mrs mrm mrw 0 mim mhi w_) 0 0 := by
  refine MI.of (cc := cX12_judge) (maxL := 7) (rt := .int) RX12 rfl (by decide +kernel) rfl (Nat.le_of_ble_eq_true rfl) ?_
  intro X C hγ hl hnm hret
  subst hγ
  have hMn := WFm.n hM
  have hrm := WFm.rm hM d
  show Wx X 0 0 (WM X.γ a mh mn mkd mfg mag mpo mwy mdy mhw mkk mkf mrs mrm mrw mth 0 mgr mwa mre mpl mib msn mpn mlo mtl mke mim mhi mp0 mtk mki mun msd mbe) 0 [(0, .ref (a 0)), (1, .int (iN (d)))] []
  refine x_aload_n C 0 rfl rfl dX12_judge_0 ?_
  refine x_iconst (v := 0) C dX12_judge_1 ?_
  refine x_put C in_X12_judge_X12 tyX12 tyX12_ok nmX12 0 rfl rfl 14 (by decide) (List.mem_of_getElem? (i := 1) rfl) rfl rfl rfl rfl rfl (Nat.le_of_ble_eq_true rfl) (WM X.γ a mh mn mkd mfg mag mpo mwy mdy mhw mkk mkf mrs mrm mrw 0 0 mgr mwa mre mpl mib msn mpn mlo mtl mke mim mhi mp0 mtk mki mun msd mbe) rfl dX12_judge_2 ?_
  refine x_aload_n C 0 rfl rfl dX12_judge_5 ?_
  refine x_iload_n C 1 rfl rfl dX12_judge_6 ?_
  refine x_V_I C (As := [.int (iN (d))]) (rest := []) 1 0 rfl rfl gX12_judge_X12_wrongRow rfl (c_X12_wrongRow _ _ a mh mn mkd mfg mag mpo mwy mdy mhw mkk mkf mrs mrm mrw 0 0 mgr mwa mre mpl mib msn mpn mlo mtl mke mim mhi mp0 mtk mki mun msd mbe hM (d) (by omega)) rfl ok_X12_wrongRow rfl rfl rfl rfl dX12_judge_7 (fun r w1 hp => ?_)
  obtain ⟨rfl, rfl⟩ := hp
  show Wx X 0 0 (WM X.γ a mh mn mkd mfg mag mpo mwy mdy mhw mkk mkf mrs mrm mrw 0 0 mgr mwa mre mpl mib msn mpn mlo mtl mke mim mhi mp0 mtk mki mun msd mbe) 10 [(0, .ref (a 0)), (1, .int (iN (d)))] [.int (iN (if 0 ≤ d ∧ d ≤ 7 then (if mhw d = 0 then -11 else if mhw d = 2 then 0 else -12) else -1))]
  refine x_istore_n C [(2, .int (iN (if 0 ≤ d ∧ d ≤ 7 then (if mhw d = 0 then -11 else if mhw d = 2 then 0 else -12) else -1))), (0, .ref (a 0)), (1, .int (iN (d)))] rfl (by decide) rfl dX12_judge_10 ?_
  refine x_iload_n C 0 rfl rfl dX12_judge_11 ?_
  refine x_if_ge C 17 (by decide) (by omega) dX12_judge_12 (fun c_12 => ?_) (fun c_12 => ?_)
  · refine x_bipush C (-4) (by decide) dX12_judge_17 ?_
    refine x_istore_n C [(3, .int (iN (-4))), (2, .int (iN (if 0 ≤ d ∧ d ≤ 7 then (if mhw d = 0 then -11 else if mhw d = 2 then 0 else -12) else -1))), (0, .ref (a 0)), (1, .int (iN (d)))] rfl (by decide) rfl dX12_judge_19 ?_
    refine x_aload_n C 2 rfl rfl dX12_judge_20 ?_
    refine x_V_V C (As := []) (rest := []) 0 0 rfl rfl gX12_judge_X12_open rfl (c_X12_open _ _ a mh mn mkd mfg mag mpo mwy mdy mhw mkk mkf mrs mrm mrw 0 0 mgr mwa mre mpl mib msn mpn mlo mtl mke mim mhi mp0 mtk mki mun msd mbe) rfl ok_X12_open rfl rfl rfl rfl dX12_judge_21 (fun w1 hp => ?_)
    obtain rfl := hp
    refine x_iconst (v := 0) C dX12_judge_24 ?_
    refine x_istore C [(4, .int (iN (0))), (3, .int (iN (-4))), (2, .int (iN (if 0 ≤ d ∧ d ≤ 7 then (if mhw d = 0 then -11 else if mhw d = 2 then 0 else -12) else -1))), (0, .ref (a 0)), (1, .int (iN (d)))] (by decide) rfl dX12_judge_25 ?_
    have LP27 : ∀ (f : Nat) (k : Nat) (G : Int → Int) (WA : Int → Int) (v4_27 : Int) (v3_27 : Int), ((mrm d).toNat - k < f) → (k ≤ (mrm d).toNat) → (((k : Int)) = v4_27) → (v3_27 = (fstz (q_jd (Lc mh mn mdy mkd mfg mag mpo mwy) (mrs d) (fun t => mrw (100 * d + t))) k)) → Wx X 0 0 (WM X.γ a mh mn mkd mfg mag (Ct.po (Ct.days (Lc mh mn mdy mkd mfg mag mpo mwy) k)) (Ct.wy (Ct.days (Lc mh mn mdy mkd mfg mag mpo mwy) k)) (Ct.dy (Ct.days (Lc mh mn mdy mkd mfg mag mpo mwy) k)) mhw mkk mkf mrs mrm mrw 0 0 G WA mre mpl mib msn mpn mlo mtl (pck mh mn mdy mkd mfg mag mpo mwy) mim mhi 47 1 (.ref (a 18)) mun msd mbe) 27 [(4, .int (iN (v4_27))), (3, .int (iN (v3_27))), (2, .int (iN (if 0 ≤ d ∧ d ≤ 7 then (if mhw d = 0 then -11 else if mhw d = 2 then 0 else -12) else -1))), (0, .ref (a 0)), (1, .int (iN (d)))] [] := by
      intro f
      induction f with
      | zero => intro k G WA v4_27 v3_27 hf; exact absurd hf (Nat.not_lt_zero _)
      | succ f ih27 =>
        intro k G WA v4_27 v3_27 hf hk e4_27 e3_27
        subst e4_27
        have bf := fstz_b (q_jd (Lc mh mn mdy mkd mfg mag mpo mwy) (mrs d) (fun t => mrw (100 * d + t))) k
        refine x_iload C 0 rfl dX12_judge_27 ?_
        refine x_aload_n C 3 rfl rfl dX12_judge_29 ?_
        refine x_get C in_X12_judge_X12 0 rfl rfl 12 (by decide) (List.mem_of_getElem? (i := 2) rfl) rfl (v := .ref (a 11)) rfl dX12_judge_30 ?_
        refine x_iload_n C 4 rfl rfl dX12_judge_33 ?_
        refine x_iaload C (f := mrm) 11 rfl (by omega) rfl dX12_judge_34 ?_
        have b153 := WFm.rm hM (d)
        refine x_icmp_ge C 97 (by decide) (by omega) dX12_judge_35 (fun c_35 => ?_) (fun c_35 => ?_)
        · refine x_aload_n C 3 rfl rfl dX12_judge_97 ?_
          refine x_V_V C (As := []) (rest := []) 0 0 rfl rfl gX12_judge_X12_close rfl (c_X12_close _ _ a mh mn mkd mfg mag (Ct.po (Ct.days (Lc mh mn mdy mkd mfg mag mpo mwy) k)) (Ct.wy (Ct.days (Lc mh mn mdy mkd mfg mag mpo mwy) k)) (Ct.dy (Ct.days (Lc mh mn mdy mkd mfg mag mpo mwy) k)) mhw mkk mkf mrs mrm mrw 0 0 G WA mre mpl mib msn mpn mlo mtl mim mhi 47 1 (.ref (a 18)) mun msd mbe mh mn mdy mkd mfg mag mpo mwy) rfl ok_X12_close rfl rfl rfl rfl dX12_judge_98 (fun w1 hp => ?_)
          obtain rfl := hp
          refine x_iload_n C 1 rfl rfl dX12_judge_101 ?_
          exact hret _ _ _ _ dX12_judge_102 rfl ⟨(by unfold q_wr; rw [if_pos (show 0 ≤ d ∧ d ≤ 7 by omega), if_neg (show ¬ mhw d = 0 by omega), if_pos (show mhw d = 2 by omega)]; rw [fstz_end (q_jd (Lc mh mn mdy mkd mfg mag mpo mwy) (mrs d) (fun t => mrw (100 * d + t))) (k := k) (by omega) (by rw [← e3_27]; omega), ← e3_27]), Wk.mk⟩
        · refine x_iload_n C 1 rfl rfl dX12_judge_38 ?_
          refine x_if_ge C 97 (by decide) (by omega) dX12_judge_39 (fun c_39 => ?_) (fun c_39 => ?_)
          · refine x_aload_n C 3 rfl rfl dX12_judge_97 ?_
            refine x_V_V C (As := []) (rest := []) 0 0 rfl rfl gX12_judge_X12_close rfl (c_X12_close _ _ a mh mn mkd mfg mag (Ct.po (Ct.days (Lc mh mn mdy mkd mfg mag mpo mwy) k)) (Ct.wy (Ct.days (Lc mh mn mdy mkd mfg mag mpo mwy) k)) (Ct.dy (Ct.days (Lc mh mn mdy mkd mfg mag mpo mwy) k)) mhw mkk mkf mrs mrm mrw 0 0 G WA mre mpl mib msn mpn mlo mtl mim mhi 47 1 (.ref (a 18)) mun msd mbe mh mn mdy mkd mfg mag mpo mwy) rfl ok_X12_close rfl rfl rfl rfl dX12_judge_98 (fun w1 hp => ?_)
            obtain rfl := hp
            refine x_iload_n C 1 rfl rfl dX12_judge_101 ?_
            exact hret _ _ _ _ dX12_judge_102 rfl ⟨(by unfold q_wr; rw [if_pos (show 0 ≤ d ∧ d ≤ 7 by omega), if_neg (show ¬ mhw d = 0 by omega), if_pos (show mhw d = 2 by omega)]; rw [fstz_end (q_jd (Lc mh mn mdy mkd mfg mag mpo mwy) (mrs d) (fun t => mrw (100 * d + t))) (k := k) (by omega) (by rw [← e3_27]; omega), ← e3_27]), Wk.mk⟩
          · refine x_aload_n C 3 rfl rfl dX12_judge_42 ?_
            refine x_get C in_X12_judge_X12 0 rfl rfl 13 (by decide) (List.mem_of_getElem? (i := 3) rfl) rfl (v := .ref (a 12)) rfl dX12_judge_43 ?_
            refine x_bipush C (100) (by decide) dX12_judge_46 ?_
            refine x_iload_n C 4 rfl rfl dX12_judge_48 ?_
            refine x_imul C dX12_judge_49 ?_
            refine x_iload C 0 rfl dX12_judge_50 ?_
            refine x_iadd C dX12_judge_52 ?_
            refine x_laload C (f := mrw) 12 rfl (by omega) rfl dX12_judge_53 ?_
            have b154 := WFm.rw hM ((100 * d) + (k : Int))
            refine x_lstore C [(5, .long (jN (mrw ((100 * d) + (k : Int))))), (4, .int (iN ((k : Int)))), (3, .int (iN (v3_27))), (2, .int (iN (if 0 ≤ d ∧ d ≤ 7 then (if mhw d = 0 then -11 else if mhw d = 2 then 0 else -12) else -1))), (0, .ref (a 0)), (1, .int (iN (d)))] (by decide) rfl dX12_judge_54 ?_
            refine x_lload C 0 rfl dX12_judge_56 ?_
            refine x_aload_n C 4 rfl rfl dX12_judge_58 ?_
            refine x_iload_n C 5 rfl rfl dX12_judge_59 ?_
            refine x_V_J C (As := [.int (iN (d))]) (rest := [.long (jN (mrw ((100 * d) + (k : Int))))]) 1 0 rfl rfl gX12_judge_X12_skipped rfl (c_X12_skipped _ _ a mh mn mkd mfg mag (Ct.po (Ct.days (Lc mh mn mdy mkd mfg mag mpo mwy) k)) (Ct.wy (Ct.days (Lc mh mn mdy mkd mfg mag mpo mwy) k)) (Ct.dy (Ct.days (Lc mh mn mdy mkd mfg mag mpo mwy) k)) mhw mkk mkf mrs mrm mrw 0 0 G WA mre mpl mib msn mpn mlo mtl (pck mh mn mdy mkd mfg mag mpo mwy) mim mhi 47 1 (.ref (a 18)) mun msd mbe (WFm.pw hM (Ct.days_wf (WFm.L hM mdy) k).po (Ct.days_wf (WFm.L hM mdy) k).wy) (d) (by omega)) rfl ok_X12_skipped rfl rfl rfl rfl dX12_judge_60 (fun r w1 hp => ?_)
            obtain ⟨rfl, rfl⟩ := hp
            show Wx X 0 0 (WM X.γ a mh mn mkd mfg mag (Ct.po (Ct.days (Lc mh mn mdy mkd mfg mag mpo mwy) k)) (Ct.wy (Ct.days (Lc mh mn mdy mkd mfg mag mpo mwy) k)) (Ct.dy (Ct.days (Lc mh mn mdy mkd mfg mag mpo mwy) k)) mhw mkk mkf mrs mrm mrw 0 0 G WA mre mpl mib msn mpn mlo mtl (pck mh mn mdy mkd mfg mag mpo mwy) mim mhi 47 1 (.ref (a 18)) mun msd mbe) 63 [(5, .long (jN (mrw ((100 * d) + (k : Int))))), (4, .int (iN ((k : Int)))), (3, .int (iN (v3_27))), (2, .int (iN (if 0 ≤ d ∧ d ≤ 7 then (if mhw d = 0 then -11 else if mhw d = 2 then 0 else -12) else -1))), (0, .ref (a 0)), (1, .int (iN (d)))] [.long (jN (lsz (mrs d))), .long (jN (mrw ((100 * d) + (k : Int))))]
            have b155 : lsz (mrs d) = if mrs d = 0 then -128 else if mrs d = 1 then -32768 else -2147483648 := rfl
            refine x_lcmp_eq C 78 (by decide) (by omega) dX12_judge_63 dX12_judge_64 (fun c_63 => ?_) (fun c_63 => ?_)
            · refine x_bipush C (-4) (by decide) dX12_judge_78 ?_
              refine x_goto C 85 (by decide) dX12_judge_80 ?_
              refine x_istore_n C [(3, .int (iN (-4))), (5, .long (jN (mrw ((100 * d) + (k : Int))))), (4, .int (iN ((k : Int)))), (2, .int (iN (if 0 ≤ d ∧ d ≤ 7 then (if mhw d = 0 then -11 else if mhw d = 2 then 0 else -12) else -1))), (0, .ref (a 0)), (1, .int (iN (d)))] rfl (by decide) rfl dX12_judge_85 ?_
              refine x_aload_n C 4 rfl rfl dX12_judge_86 ?_
              refine x_iconst (v := 0) C dX12_judge_87 ?_
              refine x_V_V C (As := [.int (iN (0))]) (rest := []) 1 0 rfl rfl gX12_judge_X12_dayBy rfl (c_X12_dayBy_0 _ _ a mh mn mkd mfg mag (Ct.po (Ct.days (Lc mh mn mdy mkd mfg mag mpo mwy) k)) (Ct.wy (Ct.days (Lc mh mn mdy mkd mfg mag mpo mwy) k)) (Ct.dy (Ct.days (Lc mh mn mdy mkd mfg mag mpo mwy) k)) mhw mkk mkf mrs mrm mrw 0 G WA mre mpl mib msn mpn mlo mtl (pck mh mn mdy mkd mfg mag mpo mwy) mim mhi 47 1 (.ref (a 18)) mun msd mbe (WFm.pw hM (Ct.days_wf (WFm.L hM mdy) k).po (Ct.days_wf (WFm.L hM mdy) k).wy)) rfl ok_X12_dayBy rfl rfl rfl rfl dX12_judge_88 (fun w1 hp => ?_)
              obtain ⟨Gb156, rfl⟩ := hp
              refine x_iinc C 2 [(4, .int (iN ((k : Int) + 1))), (3, .int (iN (-4))), (5, .long (jN (mrw ((100 * d) + (k : Int))))), (2, .int (iN (if 0 ≤ d ∧ d ≤ 7 then (if mhw d = 0 then -11 else if mhw d = 2 then 0 else -12) else -1))), (0, .ref (a 0)), (1, .int (iN (d)))] rfl rfl (by decide) rfl dX12_judge_91 ?_
              refine x_goto C 27 (by decide) dX12_judge_94 ?_
              refine Wx.subL [0, 1, 3, 4, 5] rfl ?_
              have hL : (Lc mh mn (Ct.dy (Ct.days (Lc mh mn mdy mkd mfg mag mpo mwy) k)) mkd mfg mag (Ct.po (Ct.days (Lc mh mn mdy mkd mfg mag mpo mwy) k)) (Ct.wy (Ct.days (Lc mh mn mdy mkd mfg mag mpo mwy) k))) = Ct.days (Lc mh mn mdy mkd mfg mag mpo mwy) k := (Ct.days_same (Lc mh mn mdy mkd mfg mag mpo mwy) k).symm
              refine Wx.eqW (ws' := (WM X.γ a mh mn mkd mfg mag (Ct.po (Ct.days (Lc mh mn mdy mkd mfg mag mpo mwy) (k + 1))) (Ct.wy (Ct.days (Lc mh mn mdy mkd mfg mag mpo mwy) (k + 1))) (Ct.dy (Ct.days (Lc mh mn mdy mkd mfg mag mpo mwy) (k + 1))) mhw mkk mkf mrs mrm mrw 0 0 Gb156 WA mre mpl mib msn mpn mlo mtl (pck mh mn mdy mkd mfg mag mpo mwy) mim mhi 47 1 (.ref (a 18)) mun msd mbe)) (by rw [hL]; obtain ⟨e1, e2, e3⟩ := Ct.days_s (Lc mh mn mdy mkd mfg mag mpo mwy) k; rw [e1, e2, e3]; try rfl) ?_
              exact ih27 (k + 1) (Gb156) (WA) _ _ (by omega) (by omega) (by omega) (by have hb := fstz_b (q_jd (Lc mh mn mdy mkd mfg mag mpo mwy) (mrs d) (fun t => mrw (100 * d + t))) k; exact (fstz_p (by omega) (show q_jd (Lc mh mn mdy mkd mfg mag mpo mwy) (mrs d) (fun t => mrw (100 * d + t)) k = 1 from if_pos (Or.inl c_63))).symm)
            · refine x_lload C 0 rfl dX12_judge_67 ?_
              refine x_aload_n C 4 rfl rfl dX12_judge_69 ?_
              refine x_V_I C (As := []) (rest := [.long (jN (mrw ((100 * d) + (k : Int))))]) 0 0 rfl rfl gX12_judge_X12_allWater rfl (c_X12_allWater0 _ _ a mh mn mkd mfg mag (Ct.po (Ct.days (Lc mh mn mdy mkd mfg mag mpo mwy) k)) (Ct.wy (Ct.days (Lc mh mn mdy mkd mfg mag mpo mwy) k)) (Ct.dy (Ct.days (Lc mh mn mdy mkd mfg mag mpo mwy) k)) mhw mkk mkf mrs mrm mrw 0 G WA mre mpl mib msn mpn mlo mtl (pck mh mn mdy mkd mfg mag mpo mwy) mim mhi 47 1 (.ref (a 18)) mun msd mbe (WFm.pw hM (Ct.days_wf (WFm.L hM mdy) k).po (Ct.days_wf (WFm.L hM mdy) k).wy)) rfl ok_X12_allWater rfl rfl rfl rfl dX12_judge_70 (fun r w1 hp => ?_)
              obtain ⟨rfl, rfl⟩ := hp
              show Wx X 0 0 (WM X.γ a mh mn mkd mfg mag (Ct.po (Ct.days (Lc mh mn mdy mkd mfg mag mpo mwy) k)) (Ct.wy (Ct.days (Lc mh mn mdy mkd mfg mag mpo mwy) k)) (Ct.dy (Ct.days (Lc mh mn mdy mkd mfg mag mpo mwy) k)) mhw mkk mkf mrs mrm mrw 0 0 (Ct.g (Lc mh mn (Ct.dy (Ct.days (Lc mh mn mdy mkd mfg mag mpo mwy) k)) mkd mfg mag (Ct.po (Ct.days (Lc mh mn mdy mkd mfg mag mpo mwy) k)) (Ct.wy (Ct.days (Lc mh mn mdy mkd mfg mag mpo mwy) k)))) (Ct.w (Lc mh mn (Ct.dy (Ct.days (Lc mh mn mdy mkd mfg mag mpo mwy) k)) mkd mfg mag (Ct.po (Ct.days (Lc mh mn mdy mkd mfg mag mpo mwy) k)) (Ct.wy (Ct.days (Lc mh mn mdy mkd mfg mag mpo mwy) k)))) mre mpl mib msn mpn mlo mtl (pck mh mn mdy mkd mfg mag mpo mwy) mim mhi 47 1 (.ref (a 18)) mun msd mbe) 73 [(5, .long (jN (mrw ((100 * d) + (k : Int))))), (4, .int (iN ((k : Int)))), (3, .int (iN (v3_27))), (2, .int (iN (if 0 ≤ d ∧ d ≤ 7 then (if mhw d = 0 then -11 else if mhw d = 2 then 0 else -12) else -1))), (0, .ref (a 0)), (1, .int (iN (d)))] [.int (iN (Ct.allW (Lc mh mn (Ct.dy (Ct.days (Lc mh mn mdy mkd mfg mag mpo mwy) k)) mkd mfg mag (Ct.po (Ct.days (Lc mh mn mdy mkd mfg mag mpo mwy) k)) (Ct.wy (Ct.days (Lc mh mn mdy mkd mfg mag mpo mwy) k))))), .long (jN (mrw ((100 * d) + (k : Int))))]
              have b157 := WFc.allW (WFm.L (WFm.pw hM (Ct.days_wf (WFm.L hM mdy) k).po (Ct.days_wf (WFm.L hM mdy) k).wy) (Ct.dy (Ct.days (Lc mh mn mdy mkd mfg mag mpo mwy) k)))
              refine x_i2l C (by omega) dX12_judge_73 ?_
              refine x_lcmp_ne C 83 (by decide) (by omega) dX12_judge_74 dX12_judge_75 (fun c_74 => ?_) (fun c_74 => ?_)
              · refine x_iload C 1 rfl dX12_judge_83 ?_
                refine x_istore_n C [(3, .int (iN ((k : Int)))), (5, .long (jN (mrw ((100 * d) + (k : Int))))), (4, .int (iN ((k : Int)))), (2, .int (iN (if 0 ≤ d ∧ d ≤ 7 then (if mhw d = 0 then -11 else if mhw d = 2 then 0 else -12) else -1))), (0, .ref (a 0)), (1, .int (iN (d)))] rfl (by decide) rfl dX12_judge_85 ?_
                refine x_aload_n C 4 rfl rfl dX12_judge_86 ?_
                refine x_iconst (v := 0) C dX12_judge_87 ?_
                refine x_V_V C (As := [.int (iN (0))]) (rest := []) 1 0 rfl rfl gX12_judge_X12_dayBy rfl (c_X12_dayBy_0 _ _ a mh mn mkd mfg mag (Ct.po (Ct.days (Lc mh mn mdy mkd mfg mag mpo mwy) k)) (Ct.wy (Ct.days (Lc mh mn mdy mkd mfg mag mpo mwy) k)) (Ct.dy (Ct.days (Lc mh mn mdy mkd mfg mag mpo mwy) k)) mhw mkk mkf mrs mrm mrw 0 (Ct.g (Lc mh mn (Ct.dy (Ct.days (Lc mh mn mdy mkd mfg mag mpo mwy) k)) mkd mfg mag (Ct.po (Ct.days (Lc mh mn mdy mkd mfg mag mpo mwy) k)) (Ct.wy (Ct.days (Lc mh mn mdy mkd mfg mag mpo mwy) k)))) (Ct.w (Lc mh mn (Ct.dy (Ct.days (Lc mh mn mdy mkd mfg mag mpo mwy) k)) mkd mfg mag (Ct.po (Ct.days (Lc mh mn mdy mkd mfg mag mpo mwy) k)) (Ct.wy (Ct.days (Lc mh mn mdy mkd mfg mag mpo mwy) k)))) mre mpl mib msn mpn mlo mtl (pck mh mn mdy mkd mfg mag mpo mwy) mim mhi 47 1 (.ref (a 18)) mun msd mbe (WFm.pw hM (Ct.days_wf (WFm.L hM mdy) k).po (Ct.days_wf (WFm.L hM mdy) k).wy)) rfl ok_X12_dayBy rfl rfl rfl rfl dX12_judge_88 (fun w1 hp => ?_)
                obtain ⟨Gb158, rfl⟩ := hp
                refine x_iinc C 2 [(4, .int (iN ((k : Int) + 1))), (3, .int (iN ((k : Int)))), (5, .long (jN (mrw ((100 * d) + (k : Int))))), (2, .int (iN (if 0 ≤ d ∧ d ≤ 7 then (if mhw d = 0 then -11 else if mhw d = 2 then 0 else -12) else -1))), (0, .ref (a 0)), (1, .int (iN (d)))] rfl rfl (by decide) rfl dX12_judge_91 ?_
                refine x_goto C 27 (by decide) dX12_judge_94 ?_
                refine Wx.subL [0, 1, 3, 4, 5] rfl ?_
                have hL : (Lc mh mn (Ct.dy (Ct.days (Lc mh mn mdy mkd mfg mag mpo mwy) k)) mkd mfg mag (Ct.po (Ct.days (Lc mh mn mdy mkd mfg mag mpo mwy) k)) (Ct.wy (Ct.days (Lc mh mn mdy mkd mfg mag mpo mwy) k))) = Ct.days (Lc mh mn mdy mkd mfg mag mpo mwy) k := (Ct.days_same (Lc mh mn mdy mkd mfg mag mpo mwy) k).symm
                refine Wx.eqW (ws' := (WM X.γ a mh mn mkd mfg mag (Ct.po (Ct.days (Lc mh mn mdy mkd mfg mag mpo mwy) (k + 1))) (Ct.wy (Ct.days (Lc mh mn mdy mkd mfg mag mpo mwy) (k + 1))) (Ct.dy (Ct.days (Lc mh mn mdy mkd mfg mag mpo mwy) (k + 1))) mhw mkk mkf mrs mrm mrw 0 0 Gb158 (Ct.w (Lc mh mn (Ct.dy (Ct.days (Lc mh mn mdy mkd mfg mag mpo mwy) k)) mkd mfg mag (Ct.po (Ct.days (Lc mh mn mdy mkd mfg mag mpo mwy) k)) (Ct.wy (Ct.days (Lc mh mn mdy mkd mfg mag mpo mwy) k)))) mre mpl mib msn mpn mlo mtl (pck mh mn mdy mkd mfg mag mpo mwy) mim mhi 47 1 (.ref (a 18)) mun msd mbe)) (by rw [hL]; obtain ⟨e1, e2, e3⟩ := Ct.days_s (Lc mh mn mdy mkd mfg mag mpo mwy) k; rw [e1, e2, e3]; try rfl) ?_
                exact ih27 (k + 1) (Gb158) (Ct.w (Lc mh mn (Ct.dy (Ct.days (Lc mh mn mdy mkd mfg mag mpo mwy) k)) mkd mfg mag (Ct.po (Ct.days (Lc mh mn mdy mkd mfg mag mpo mwy) k)) (Ct.wy (Ct.days (Lc mh mn mdy mkd mfg mag mpo mwy) k)))) _ _ (by omega) (by omega) (by omega) (by have hb := fstz_b (q_jd (Lc mh mn mdy mkd mfg mag mpo mwy) (mrs d) (fun t => mrw (100 * d + t))) k; exact (fstz_f (by omega) (show q_jd (Lc mh mn mdy mkd mfg mag mpo mwy) (mrs d) (fun t => mrw (100 * d + t)) k = 0 from if_neg (fun z => z.elim (fun y => c_63 y) (fun y => c_74 (by rw [hL]; exact y))))).symm)
              · refine x_bipush C (-4) (by decide) dX12_judge_78 ?_
                refine x_goto C 85 (by decide) dX12_judge_80 ?_
                refine x_istore_n C [(3, .int (iN (-4))), (5, .long (jN (mrw ((100 * d) + (k : Int))))), (4, .int (iN ((k : Int)))), (2, .int (iN (if 0 ≤ d ∧ d ≤ 7 then (if mhw d = 0 then -11 else if mhw d = 2 then 0 else -12) else -1))), (0, .ref (a 0)), (1, .int (iN (d)))] rfl (by decide) rfl dX12_judge_85 ?_
                refine x_aload_n C 4 rfl rfl dX12_judge_86 ?_
                refine x_iconst (v := 0) C dX12_judge_87 ?_
                refine x_V_V C (As := [.int (iN (0))]) (rest := []) 1 0 rfl rfl gX12_judge_X12_dayBy rfl (c_X12_dayBy_0 _ _ a mh mn mkd mfg mag (Ct.po (Ct.days (Lc mh mn mdy mkd mfg mag mpo mwy) k)) (Ct.wy (Ct.days (Lc mh mn mdy mkd mfg mag mpo mwy) k)) (Ct.dy (Ct.days (Lc mh mn mdy mkd mfg mag mpo mwy) k)) mhw mkk mkf mrs mrm mrw 0 (Ct.g (Lc mh mn (Ct.dy (Ct.days (Lc mh mn mdy mkd mfg mag mpo mwy) k)) mkd mfg mag (Ct.po (Ct.days (Lc mh mn mdy mkd mfg mag mpo mwy) k)) (Ct.wy (Ct.days (Lc mh mn mdy mkd mfg mag mpo mwy) k)))) (Ct.w (Lc mh mn (Ct.dy (Ct.days (Lc mh mn mdy mkd mfg mag mpo mwy) k)) mkd mfg mag (Ct.po (Ct.days (Lc mh mn mdy mkd mfg mag mpo mwy) k)) (Ct.wy (Ct.days (Lc mh mn mdy mkd mfg mag mpo mwy) k)))) mre mpl mib msn mpn mlo mtl (pck mh mn mdy mkd mfg mag mpo mwy) mim mhi 47 1 (.ref (a 18)) mun msd mbe (WFm.pw hM (Ct.days_wf (WFm.L hM mdy) k).po (Ct.days_wf (WFm.L hM mdy) k).wy)) rfl ok_X12_dayBy rfl rfl rfl rfl dX12_judge_88 (fun w1 hp => ?_)
                obtain ⟨Gb159, rfl⟩ := hp
                refine x_iinc C 2 [(4, .int (iN ((k : Int) + 1))), (3, .int (iN (-4))), (5, .long (jN (mrw ((100 * d) + (k : Int))))), (2, .int (iN (if 0 ≤ d ∧ d ≤ 7 then (if mhw d = 0 then -11 else if mhw d = 2 then 0 else -12) else -1))), (0, .ref (a 0)), (1, .int (iN (d)))] rfl rfl (by decide) rfl dX12_judge_91 ?_
                refine x_goto C 27 (by decide) dX12_judge_94 ?_
                refine Wx.subL [0, 1, 3, 4, 5] rfl ?_
                have hL : (Lc mh mn (Ct.dy (Ct.days (Lc mh mn mdy mkd mfg mag mpo mwy) k)) mkd mfg mag (Ct.po (Ct.days (Lc mh mn mdy mkd mfg mag mpo mwy) k)) (Ct.wy (Ct.days (Lc mh mn mdy mkd mfg mag mpo mwy) k))) = Ct.days (Lc mh mn mdy mkd mfg mag mpo mwy) k := (Ct.days_same (Lc mh mn mdy mkd mfg mag mpo mwy) k).symm
                refine Wx.eqW (ws' := (WM X.γ a mh mn mkd mfg mag (Ct.po (Ct.days (Lc mh mn mdy mkd mfg mag mpo mwy) (k + 1))) (Ct.wy (Ct.days (Lc mh mn mdy mkd mfg mag mpo mwy) (k + 1))) (Ct.dy (Ct.days (Lc mh mn mdy mkd mfg mag mpo mwy) (k + 1))) mhw mkk mkf mrs mrm mrw 0 0 Gb159 (Ct.w (Lc mh mn (Ct.dy (Ct.days (Lc mh mn mdy mkd mfg mag mpo mwy) k)) mkd mfg mag (Ct.po (Ct.days (Lc mh mn mdy mkd mfg mag mpo mwy) k)) (Ct.wy (Ct.days (Lc mh mn mdy mkd mfg mag mpo mwy) k)))) mre mpl mib msn mpn mlo mtl (pck mh mn mdy mkd mfg mag mpo mwy) mim mhi 47 1 (.ref (a 18)) mun msd mbe)) (by rw [hL]; obtain ⟨e1, e2, e3⟩ := Ct.days_s (Lc mh mn mdy mkd mfg mag mpo mwy) k; rw [e1, e2, e3]; try rfl) ?_
                exact ih27 (k + 1) (Gb159) (Ct.w (Lc mh mn (Ct.dy (Ct.days (Lc mh mn mdy mkd mfg mag mpo mwy) k)) mkd mfg mag (Ct.po (Ct.days (Lc mh mn mdy mkd mfg mag mpo mwy) k)) (Ct.wy (Ct.days (Lc mh mn mdy mkd mfg mag mpo mwy) k)))) _ _ (by omega) (by omega) (by omega) (by have hb := fstz_b (q_jd (Lc mh mn mdy mkd mfg mag mpo mwy) (mrs d) (fun t => mrw (100 * d + t))) k; exact (fstz_p (by omega) (show q_jd (Lc mh mn mdy mkd mfg mag mpo mwy) (mrs d) (fun t => mrw (100 * d + t)) k = 1 from if_pos (Or.inr (by rw [← hL]; exact c_74)))).symm)
    exact LP27 (((mrm d).toNat - (0)) + 1) (0) (mgr) (mwa) _ _ (by omega) (by omega) (by omega) (rfl)
  · refine x_iload_n C 0 rfl rfl dX12_judge_15 ?_
    exact hret _ _ _ _ dX12_judge_16 rfl ⟨(by unfold q_wr; omega), Wk.mk⟩
end HSM2af
