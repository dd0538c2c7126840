section HTEXab
theorem in_X12_country_X12 : ∀ w ∈ u_ws RX12 TX12 34, w ∈ wsX12_country := by decide +kernel
theorem ok_X12_country : okY yX12_country 1 := by decide +kernel
def rmX12_country : Room := { frames := 9, cells := 0, slots := 0, locals := 201 }
set_option maxRecDepth 100000 in
set_option maxHeartbeats 400000 in
theorem c_X12_country (l : Launch) (γ : GX) (a : Nat → Nat) (mh : Int → Int) (mn : Int) (mkd : Int → Int) (mfg : Int → Int) (mag : Int → Int) (mpo : Int → Int) (mwy : Int → Int) (mdy : Int) (mhw : Int → Int) (mkk : Int → Int) (mkf : Int → Int) (mrs : Int → Int) (mrm : Int → Int) (mrw : Int → Int) (mth : Int) (mgr : Int → Int) (mwa : Int → Int) (mre : Int) (mpl : Int) (mib : Int) (msn : Int) (mpn : Int → Int) (mlo : Int → Int) (mtl : Int → Int) (mke : Int → Int) (mim : Int → Int) (mhi : Int) (mp0 : Int) (mtk : Int) (mki : Value) (mun : Int → Int) (msd : Int) (mbe : Int → Int) (hM : WFm mn mh mkd mfg mag mpo mwy mhw mkk mkf mrs mrm mrw) (d : Int) (h0_ : -2147483648 ≤ d ∧ d < 2147483648) (h1_ : 0 ≤ mdy ∧ mdy ≤ 999) : MI l γ yX12_country wsX12_country rmX12_country [.ref (a 0), .int (iN (d))] (WM γ a mh mn mkd mfg mag mpo mwy mdy mhw mkk mkf mrs mrm mrw mth 0 mgr mwa mre mpl mib msn mpn mlo mtl mke mim mhi mp0 mtk mki mun msd mbe) (fun r_ w_ => r_ = q_country d (mhw d) (mrs d) (mrm d) (uz (fun t => mrw (100 * d + t)) (mrm d)) (Lc mh mn mdy mkd mfg mag mpo mwy) ∧ ((0 ≤ r_ ∧ Wk γ a (Ct.h (runS (uz (fun t => mrw (100 * d + t)) (mrm d)) (mrm d) 100 0 0 (Lc mh mn mdy mkd mfg mag mpo mwy)).2) (Ct.n (runS (uz (fun t => mrw (100 * d + t)) (mrm d)) (mrm d) 100 0 0 (Lc mh mn mdy mkd mfg mag mpo mwy)).2) (Ct.kd (runS (uz (fun t => mrw (100 * d + t)) (mrm d)) (mrm d) 100 0 0 (Lc mh mn mdy mkd mfg mag mpo mwy)).2) (Ct.fg (runS (uz (fun t => mrw (100 * d + t)) (mrm d)) (mrm d) 100 0 0 (Lc mh mn mdy mkd mfg mag mpo mwy)).2) (Ct.ag (runS (uz (fun t => mrw (100 * d + t)) (mrm d)) (mrm d) 100 0 0 (Lc mh mn mdy mkd mfg mag mpo mwy)).2) (Ct.po (runS (uz (fun t => mrw (100 * d + t)) (mrm d)) (mrm d) 100 0 0 (Lc mh mn mdy mkd mfg mag mpo mwy)).2) (Ct.wy (runS (uz (fun t => mrw (100 * d + t)) (mrm d)) (mrm d) 100 0 0 (Lc mh mn mdy mkd mfg mag mpo mwy)).2) (Ct.dy (runS (uz (fun t => mrw (100 * d + t)) (mrm d)) (mrm d) 100 0 0 (Lc mh mn mdy mkd mfg mag mpo mwy)).2) mhw mkk mkf mrs mrm mrw 0 mim mhi w_) ∨ (r_ < 0 ∧ Wk γ a mh mn mkd mfg mag mpo mwy mdy mhw mkk mkf mrs mrm mrw 0 mim mhi w_))) 0 0 := by
  refine MI.of (cc := cX12_country) (maxL := 4) (rt := .int) RX12 rfl (by decide +kernel) rfl (Nat.le_of_ble_eq_true rfl) ?_
  intro X C hγ hl hnm hret
  subst hγ
  have hMn := WFm.n hM
  have hrm := WFm.rm hM d
  show Wx X 0 0 (WM X.γ a mh mn mkd mfg mag mpo mwy mdy mhw mkk mkf mrs mrm mrw mth 0 mgr mwa mre mpl mib msn mpn mlo mtl mke mim mhi mp0 mtk mki mun msd mbe) 0 [(0, .ref (a 0)), (1, .int (iN (d)))] []
  refine x_aload_n C 0 rfl rfl dX12_country_0 ?_
  refine x_iconst (v := 0) C dX12_country_1 ?_
  refine x_put C in_X12_country_X12 tyX12 tyX12_ok nmX12 0 rfl rfl 14 (by decide) (List.mem_of_getElem? (i := 1) rfl) rfl rfl rfl rfl rfl (Nat.le_of_ble_eq_true rfl) (WM X.γ a mh mn mkd mfg mag mpo mwy mdy mhw mkk mkf mrs mrm mrw 0 0 mgr mwa mre mpl mib msn mpn mlo mtl mke mim mhi mp0 mtk mki mun msd mbe) rfl dX12_country_2 ?_
  refine x_aload_n C 0 rfl rfl dX12_country_5 ?_
  refine x_iload_n C 1 rfl rfl dX12_country_6 ?_
  refine x_V_I C (As := [.int (iN (d))]) (rest := []) 1 0 rfl rfl gX12_country_X12_wrongRow rfl (c_X12_wrongRow _ _ a mh mn mkd mfg mag mpo mwy mdy mhw mkk mkf mrs mrm mrw 0 0 mgr mwa mre mpl mib msn mpn mlo mtl mke mim mhi mp0 mtk mki mun msd mbe hM (d) (by omega)) rfl ok_X12_wrongRow rfl rfl rfl rfl dX12_country_7 (fun r w1 hp => ?_)
  obtain ⟨rfl, rfl⟩ := hp
  show Wx X 0 0 (WM X.γ a mh mn mkd mfg mag mpo mwy mdy mhw mkk mkf mrs mrm mrw 0 0 mgr mwa mre mpl mib msn mpn mlo mtl mke mim mhi mp0 mtk mki mun msd mbe) 10 [(0, .ref (a 0)), (1, .int (iN (d)))] [.int (iN (if 0 ≤ d ∧ d ≤ 7 then (if mhw d = 0 then -11 else if mhw d = 2 then 0 else -12) else -1))]
  refine x_istore_n C [(2, .int (iN (if 0 ≤ d ∧ d ≤ 7 then (if mhw d = 0 then -11 else if mhw d = 2 then 0 else -12) else -1))), (0, .ref (a 0)), (1, .int (iN (d)))] rfl (by decide) rfl dX12_country_10 ?_
  refine x_iload_n C 0 rfl rfl dX12_country_11 ?_
  have LP30 : ∀ (s0_30 : Int), (s0_30 = (if 0 ≤ d ∧ d ≤ 7 then (if mhw d = 0 then -11 else if mhw d = 2 then (if mrs d = 0 then 0 else -12) else -12) else -1)) → Wx X 0 0 (WM X.γ a mh mn mkd mfg mag mpo mwy mdy mhw mkk mkf mrs mrm mrw 0 0 mgr mwa mre mpl mib msn mpn mlo mtl mke mim mhi mp0 mtk mki mun msd mbe) 30 [(2, .int (iN (if 0 ≤ d ∧ d ≤ 7 then (if mhw d = 0 then -11 else if mhw d = 2 then 0 else -12) else -1))), (0, .ref (a 0)), (1, .int (iN (d)))] [.int (iN (s0_30))] := by
    intro s0_30 es0_30
    refine x_istore_n C [(2, .int (iN (s0_30))), (0, .ref (a 0)), (1, .int (iN (d)))] rfl (by decide) rfl dX12_country_30 ?_
    refine x_iload_n C 0 rfl rfl dX12_country_31 ?_
    refine x_if_ge C 37 (by decide) (by omega) dX12_country_32 (fun c_32 => ?_) (fun c_32 => ?_)
    · refine x_aload_n C 1 rfl rfl dX12_country_37 ?_
      refine x_iload_n C 2 rfl rfl dX12_country_38 ?_
      refine x_put C in_X12_country_X12 tyX12 tyX12_ok nmX12 0 rfl rfl 18 (by decide) (List.mem_of_getElem? (i := 3) rfl) rfl rfl rfl rfl rfl (Nat.le_of_ble_eq_true rfl) (WM X.γ a mh mn mkd mfg mag mpo mwy mdy mhw mkk mkf mrs mrm mrw 0 0 mgr mwa d mpl mib msn mpn mlo mtl mke mim mhi mp0 mtk mki mun msd mbe) rfl dX12_country_39 ?_
      refine x_aload_n C 1 rfl rfl dX12_country_42 ?_
      refine x_iconst (v := 0) C dX12_country_43 ?_
      refine x_put C in_X12_country_X12 tyX12 tyX12_ok nmX12 0 rfl rfl 19 (by decide) (List.mem_of_getElem? (i := 4) rfl) rfl rfl rfl rfl rfl (Nat.le_of_ble_eq_true rfl) (WM X.γ a mh mn mkd mfg mag mpo mwy mdy mhw mkk mkf mrs mrm mrw 0 0 mgr mwa d 0 mib msn mpn mlo mtl mke mim mhi mp0 mtk mki mun msd mbe) rfl dX12_country_44 ?_
      refine x_aload_n C 1 rfl rfl dX12_country_47 ?_
      refine x_iconst (v := 0) C dX12_country_48 ?_
      refine x_put C in_X12_country_X12 tyX12 tyX12_ok nmX12 0 rfl rfl 20 (by decide) (List.mem_of_getElem? (i := 5) rfl) rfl rfl rfl (nar_z (by decide)) (fits_z (by decide)) (Nat.le_of_ble_eq_true rfl) (WM X.γ a mh mn mkd mfg mag mpo mwy mdy mhw mkk mkf mrs mrm mrw 0 0 mgr mwa d 0 0 msn mpn mlo mtl mke mim mhi mp0 mtk mki mun msd mbe) rfl dX12_country_49 ?_
      refine x_aload_n C 1 rfl rfl dX12_country_52 ?_
      refine x_iconst (v := 0) C dX12_country_53 ?_
      refine x_put C in_X12_country_X12 tyX12 tyX12_ok nmX12 0 rfl rfl 21 (by decide) (List.mem_of_getElem? (i := 6) rfl) rfl rfl rfl rfl rfl (Nat.le_of_ble_eq_true rfl) (WM X.γ a mh mn mkd mfg mag mpo mwy mdy mhw mkk mkf mrs mrm mrw 0 0 mgr mwa d 0 0 0 mpn mlo mtl mke mim mhi mp0 mtk mki mun msd mbe) rfl dX12_country_54 ?_
      have LP57 : ∀ (f : Nat) (k : Nat) (PN : Int → Int) (LO : Int → Int) (TL : Int → Int), (30 - k < f) → (k ≤ 25) → (rdS (uz (fun t => mrw (100 * d + t)) (mrm d)) (mrm d) k PN LO TL) → Wx X 0 0 (WM X.γ a mh mn mkd mfg mag mpo mwy mdy mhw mkk mkf mrs mrm mrw 0 0 mgr mwa d (pz (uz (fun t => mrw (100 * d + t)) (mrm d)) k) 0 ((k : Int)) PN LO TL mke mim mhi mp0 mtk mki mun msd mbe) 57 [(2, .int (iN (s0_30))), (0, .ref (a 0)), (1, .int (iN (d)))] [] := by
        intro f
        induction f with
        | zero => intro k PN LO TL hf; exact absurd hf (Nat.not_lt_zero _)
        | succ f ih57 =>
          intro k PN LO TL hf hk hR
          have hpz0 := pz_0 (u := (uz (fun t => mrw (100 * d + t)) (mrm d))) k
          have hpz1 := pz_up (u := (uz (fun t => mrw (100 * d + t)) (mrm d))) k
          refine x_aload_n C 1 rfl rfl dX12_country_57 ?_
          refine x_get C in_X12_country_X12 0 rfl rfl 20 (by decide) (List.mem_of_getElem? (i := 5) rfl) rfl (v := .int (iN (0))) rfl dX12_country_58 ?_
          refine x_if_ne C 91 (by decide) (by decide) dX12_country_61 (fun z => absurd z (by decide)) (fun _ => ?_)
          refine x_aload_n C 1 rfl rfl dX12_country_64 ?_
          refine x_get C in_X12_country_X12 0 rfl rfl 21 (by decide) (List.mem_of_getElem? (i := 6) rfl) rfl (v := .int (iN ((k : Int)))) rfl dX12_country_65 ?_
          refine x_if_eq C 84 (by decide) (by omega) dX12_country_68 (fun c_68 => ?_) (fun c_68 => ?_)
          · refine x_aload_n C 1 rfl rfl dX12_country_84 ?_
            have h0 : k = 0 ∨ pz (uz (fun t => mrw (100 * d + t)) (mrm d)) k < mrm d := by omega
            have hle := pz_le hR (by omega) h0
            refine x_V_V C (As := []) (rest := []) 0 0 rfl rfl gX12_country_X12_readStatement rfl (c_X12_readStatement _ _ a mh mn mkd mfg mag mpo mwy mdy mhw mkk mkf mrs mrm mrw 0 0 mgr mwa d (pz (uz (fun t => mrw (100 * d + t)) (mrm d)) k) ((k : Int)) PN LO TL mke mim mhi mp0 mtk mki mun msd mbe hM (by omega) (by omega) (by omega)) rfl ok_X12_readStatement rfl rfl rfl rfl dX12_country_85 (fun w1 hp => ?_)
            rcases hp with ⟨gb219, TLb219, fb219, tb219, rfl⟩ | ⟨gb219, LOb219, TLb219, rfl⟩
            · refine x_goto C 57 (by decide) dX12_country_88 ?_
              refine Wx.eqW (ws' := (WM X.γ a mh mn mkd mfg mag mpo mwy mdy mhw mkk mkf mrs mrm mrw 0 0 mgr mwa d (pz (uz (fun t => mrw (100 * d + t)) (mrm d)) (k + 1)) 0 (((k + 1 : Nat) : Int)) (upz PN ((k : Int)) (pz (uz (fun t => mrw (100 * d + t)) (mrm d)) k)) (upz LO ((k : Int)) ((uz (fun t => mrw (100 * d + t)) (mrm d)) (pz (uz (fun t => mrw (100 * d + t)) (mrm d)) k))) TLb219 mke mim mhi mp0 mtk mki mun msd mbe)) (by rw [show ((k + 1 : Nat) : Int) = (k : Int) + 1 by omega]; try rfl) ?_
              exact ih57 (k + 1) (upz PN ((k : Int)) (pz (uz (fun t => mrw (100 * d + t)) (mrm d)) k)) (upz LO ((k : Int)) ((uz (fun t => mrw (100 * d + t)) (mrm d)) (pz (uz (fun t => mrw (100 * d + t)) (mrm d)) k))) (TLb219) (by omega) (by omega) (rdS_s (by omega) hR h0 gb219 fb219 tb219)
            · refine x_goto C 57 (by decide) dX12_country_88 ?_
              refine x_aload_n C 1 rfl rfl dX12_country_57 ?_
              refine x_get C in_X12_country_X12 0 rfl rfl 20 (by decide) (List.mem_of_getElem? (i := 5) rfl) rfl (v := .int (iN (1))) rfl dX12_country_58 ?_
              refine x_if_ne C 91 (by decide) (by decide) dX12_country_61 (fun _ => ?_) (fun z => absurd z (by decide))
              refine x_aload_n C 1 rfl rfl dX12_country_91 ?_
              refine x_get C in_X12_country_X12 0 rfl rfl 20 (by decide) (List.mem_of_getElem? (i := 5) rfl) rfl (v := .int (iN (1))) rfl dX12_country_92 ?_
              refine x_if_eq C 107 (by decide) (by decide) dX12_country_95 (fun z => absurd z (by decide)) (fun _ => ?_)
              refine x_sipush C (-1000) (by decide) dX12_country_98 ?_
              refine x_aload_n C 1 rfl rfl dX12_country_101 ?_
              refine x_get C in_X12_country_X12 0 rfl rfl 19 (by decide) (List.mem_of_getElem? (i := 4) rfl) rfl (v := .int (iN (sbad (uz (fun t => mrw (100 * d + t)) (mrm d)) (pz (uz (fun t => mrw (100 * d + t)) (mrm d)) k)))) rfl dX12_country_102 ?_
              refine x_isub C dX12_country_105 ?_
              exact hret _ _ _ _ dX12_country_106 rfl ⟨(by have e := rdS_f (by omega) hR h0 gb219; unfold q_country; unfold q_wr; rw [if_pos (show 0 ≤ d ∧ d ≤ 7 by omega), if_neg (show ¬ mhw d = 0 by omega), if_pos (show mhw d = 2 by omega)]; rw [if_neg (show ¬ mrs d ≠ 0 by omega), if_pos (show 0 ≤ fbad (uz (fun t => mrw (100 * d + t)) (mrm d)) (mrm d) 101 0 by rw [e]; exact gb219), e]), Or.inr ⟨(by have := gb219; omega), Wk.mk⟩⟩
          · refine x_aload_n C 1 rfl rfl dX12_country_71 ?_
            refine x_get C in_X12_country_X12 0 rfl rfl 19 (by decide) (List.mem_of_getElem? (i := 4) rfl) rfl (v := .int (iN (pz (uz (fun t => mrw (100 * d + t)) (mrm d)) k))) rfl dX12_country_72 ?_
            refine x_aload_n C 1 rfl rfl dX12_country_75 ?_
            refine x_get C in_X12_country_X12 0 rfl rfl 12 (by decide) (List.mem_of_getElem? (i := 7) rfl) rfl (v := .ref (a 11)) rfl dX12_country_76 ?_
            refine x_iload_n C 2 rfl rfl dX12_country_79 ?_
            refine x_iaload C (f := mrm) 11 rfl (by omega) rfl dX12_country_80 ?_
            have b220 := WFm.rm hM (d)
            refine x_icmp_ge C 91 (by decide) (by omega) dX12_country_81 (fun c_81 => ?_) (fun c_81 => ?_)
            · have hk1 : 0 < k := by omega
              have hfb := hR.2.2.2.2 hk1 (by omega)
              refine x_aload_n C 1 rfl rfl dX12_country_91 ?_
              refine x_get C in_X12_country_X12 0 rfl rfl 20 (by decide) (List.mem_of_getElem? (i := 5) rfl) rfl (v := .int (iN (0))) rfl dX12_country_92 ?_
              refine x_if_eq C 107 (by decide) (by decide) dX12_country_95 (fun _ => ?_) (fun z => absurd z (by decide))
              refine x_aload_n C 1 rfl rfl dX12_country_107 ?_
              refine x_V_V C (As := []) (rest := []) 0 0 rfl rfl gX12_country_X12_open rfl (c_X12_open _ _ a mh mn mkd mfg mag mpo mwy mdy mhw mkk mkf mrs mrm mrw 0 0 mgr mwa d (pz (uz (fun t => mrw (100 * d + t)) (mrm d)) k) 0 ((k : Int)) PN LO TL mke mim mhi mp0 mtk mki mun msd mbe) rfl ok_X12_open rfl rfl rfl rfl dX12_country_108 (fun w1 hp => ?_)
              obtain rfl := hp
              refine x_iconst (v := 0) C dX12_country_111 ?_
              refine x_istore_n C [(3, .int (iN (0))), (2, .int (iN (s0_30))), (0, .ref (a 0)), (1, .int (iN (d)))] rfl (by decide) rfl dX12_country_112 ?_
              have LP113 : ∀ (f : Nat) (j : Nat) (CJ : Ct) (G : Int → Int) (v3_113 : Int), (k - j < f) → (j ≤ k) → (hid (LcO CJ = CJ)) → (WFc CJ) → (0 ≤ Ct.dy CJ ∧ Ct.dy CJ ≤ 999) → (hid (runS (uz (fun t => mrw (100 * d + t)) (mrm d)) (mrm d) 100 0 0 (Lc mh mn mdy mkd mfg mag mpo mwy) = runS (uz (fun t => mrw (100 * d + t)) (mrm d)) (mrm d) (100 - j) (pz (uz (fun t => mrw (100 * d + t)) (mrm d)) j) (j : Int) CJ)) → (((j : Int)) = v3_113) → Wx X 0 0 (WM X.γ a (Ct.h CJ) (Ct.n CJ) (Ct.kd CJ) (Ct.fg CJ) (Ct.ag CJ) (Ct.po CJ) (Ct.wy CJ) (Ct.dy CJ) mhw mkk mkf mrs mrm mrw 0 0 G mwa d (pz (uz (fun t => mrw (100 * d + t)) (mrm d)) k) 0 ((k : Int)) PN LO TL (pck mh mn mdy mkd mfg mag mpo mwy) mim mhi 47 1 (.ref (a 18)) mun msd mbe) 113 [(3, .int (iN (v3_113))), (2, .int (iN (s0_30))), (0, .ref (a 0)), (1, .int (iN (d)))] [] := by
                intro f
                induction f with
                | zero => intro j CJ G v3_113 hf; exact absurd hf (Nat.not_lt_zero _)
                | succ f ih113 =>
                  intro j CJ G v3_113 hf hj hCO hCw hCd hr e3_113
                  subst e3_113
                  refine x_iload_n C 0 rfl rfl dX12_country_113 ?_
                  refine x_aload_n C 2 rfl rfl dX12_country_114 ?_
                  refine x_get C in_X12_country_X12 0 rfl rfl 21 (by decide) (List.mem_of_getElem? (i := 6) rfl) rfl (v := .int (iN ((k : Int)))) rfl dX12_country_115 ?_
                  refine x_icmp_ge C 150 (by decide) (by omega) dX12_country_118 (fun c_118 => ?_) (fun c_118 => ?_)
                  · have hz : j = k := by omega
                    have hpe : ¬ pz (uz (fun t => mrw (100 * d + t)) (mrm d)) k < mrm d := by omega
                    have hr : hid (runS (uz (fun t => mrw (100 * d + t)) (mrm d)) (mrm d) 100 0 0 (Lc mh mn mdy mkd mfg mag mpo mwy) = ((k : Int), CJ)) := by have hr : _ = _ := hr; show _ = _; rw [hr, hz]; exact runS_end hpe _
                    refine x_aload_n C 2 rfl rfl dX12_country_150 ?_
                    refine x_get C in_X12_country_X12 0 rfl rfl 21 (by decide) (List.mem_of_getElem? (i := 6) rfl) rfl (v := .int (iN ((k : Int)))) rfl dX12_country_151 ?_
                    exact hret _ _ _ _ dX12_country_154 rfl ⟨(by have hr : _ = _ := hr; unfold q_country; unfold q_wr; rw [if_pos (show 0 ≤ d ∧ d ≤ 7 by omega), if_neg (show ¬ mhw d = 0 by omega), if_pos (show mhw d = 2 by omega)]; rw [if_neg (show ¬ mrs d ≠ 0 by omega), if_neg (show ¬ 0 ≤ fbad (uz (fun t => mrw (100 * d + t)) (mrm d)) (mrm d) 101 0 by rw [hfb]; decide), hr]), Or.inl ⟨(by omega), by have hr : _ = _ := hr; rw [hr]; exact Wk.mk⟩⟩
                  · refine x_aload_n C 2 rfl rfl dX12_country_121 ?_
                    refine x_iload_n C 0 rfl rfl dX12_country_122 ?_
                    have hat := rdS_at hR pz_0 (s := j) (by omega) CJ
                    obtain ⟨ha1, ha2, ha3, ha4, ha5, ha6, ha7⟩ := hat
                    have hb1 : LO (j : Int) = 103 ∨ LO (j : Int) = 119 ∨ LO (j : Int) = 109 ∨ LO (j : Int) = 121 ∨ LO (j : Int) = 100 := ha1
                    have hlt := rdS_lt hR (s := j) (by omega)
                    refine x_V_I C (As := [.int (iN ((j : Int)))]) (rest := []) 1 0 rfl rfl gX12_country_X12_comesTold rfl (c_X12_comesTold _ _ a (Ct.h CJ) (Ct.n CJ) (Ct.kd CJ) (Ct.fg CJ) (Ct.ag CJ) (Ct.po CJ) (Ct.wy CJ) (Ct.dy CJ) mhw mkk mkf mrs mrm mrw 0 G mwa d (pz (uz (fun t => mrw (100 * d + t)) (mrm d)) k) 0 ((k : Int)) PN LO TL (pck mh mn mdy mkd mfg mag mpo mwy) mim mhi 47 1 (.ref (a 18)) mun msd mbe (WFm.ofC hM hCw) ((j : Int)) (by omega) (by omega) (by omega) (by omega) (by omega) (by omega)) rfl ok_X12_comesTold rfl rfl rfl rfl dX12_country_123 (fun r w1 hp => ?_)
                    rcases hp with ⟨gb221, rfl, Gb221, rfl⟩ | ⟨gb221, rfl, rfl⟩
                    · have hO2 : (Lc (Ct.h CJ) (Ct.n CJ) (Ct.dy CJ) (Ct.kd CJ) (Ct.fg CJ) (Ct.ag CJ) (Ct.po CJ) (Ct.wy CJ)) = CJ := hCO
                      rw [hO2, ha6] at gb221
                      refine Wx.eqW (ws' := (WM X.γ a (Ct.h (snx (uz (fun t => mrw (100 * d + t)) (mrm d)) (pz (uz (fun t => mrw (100 * d + t)) (mrm d)) j) CJ)) (Ct.n (snx (uz (fun t => mrw (100 * d + t)) (mrm d)) (pz (uz (fun t => mrw (100 * d + t)) (mrm d)) j) CJ)) (Ct.kd (snx (uz (fun t => mrw (100 * d + t)) (mrm d)) (pz (uz (fun t => mrw (100 * d + t)) (mrm d)) j) CJ)) (Ct.fg (snx (uz (fun t => mrw (100 * d + t)) (mrm d)) (pz (uz (fun t => mrw (100 * d + t)) (mrm d)) j) CJ)) (Ct.ag (snx (uz (fun t => mrw (100 * d + t)) (mrm d)) (pz (uz (fun t => mrw (100 * d + t)) (mrm d)) j) CJ)) (Ct.po (snx (uz (fun t => mrw (100 * d + t)) (mrm d)) (pz (uz (fun t => mrw (100 * d + t)) (mrm d)) j) CJ)) (Ct.wy (snx (uz (fun t => mrw (100 * d + t)) (mrm d)) (pz (uz (fun t => mrw (100 * d + t)) (mrm d)) j) CJ)) (Ct.dy (snx (uz (fun t => mrw (100 * d + t)) (mrm d)) (pz (uz (fun t => mrw (100 * d + t)) (mrm d)) j) CJ)) mhw mkk mkf mrs mrm mrw 0 0 Gb221 mwa d (pz (uz (fun t => mrw (100 * d + t)) (mrm d)) k) 0 ((k : Int)) PN LO TL (pck mh mn mdy mkd mfg mag mpo mwy) mim mhi 47 1 (.ref (a 18)) mun msd mbe)) (by rw [hO2, ha7]) ?_
                      refine x_if_ne C 144 (by decide) (by decide) dX12_country_126 (fun _ => ?_) (fun z => absurd z (by decide))
                      refine x_iinc C 0 [(3, .int (iN ((j : Int) + 1))), (2, .int (iN (s0_30))), (0, .ref (a 0)), (1, .int (iN (d)))] rfl rfl (by decide) rfl dX12_country_144 ?_
                      refine x_goto C 113 (by decide) dX12_country_147 ?_
                      exact ih113 (j + 1) (snx (uz (fun t => mrw (100 * d + t)) (mrm d)) (pz (uz (fun t => mrw (100 * d + t)) (mrm d)) j) CJ) (Gb221) _ (by omega) (by omega) (by show _ = _; rw [← ha7]; exact snc_O hCO ha1 _ _ _ _) (by rw [← ha7]; exact (snc_wf hCw hCd ha1 (ha6.trans gb221)).1) (by rw [← ha7]; exact (snc_wf hCw hCd ha1 (ha6.trans gb221)).2) (by have hr : _ = _ := hr; show _ = _; rw [hr, show 100 - j = (100 - (j + 1)) + 1 by omega, runS_go _ hlt gb221, show ((j + 1 : Nat) : Int) = (j : Int) + 1 by omega]; rfl) (by omega)
                    · have hO2 : (Lc (Ct.h CJ) (Ct.n CJ) (Ct.dy CJ) (Ct.kd CJ) (Ct.fg CJ) (Ct.ag CJ) (Ct.po CJ) (Ct.wy CJ)) = CJ := hCO
                      rw [hO2, ha6] at gb221
                      refine x_if_ne C 144 (by decide) (by decide) dX12_country_126 (fun z => absurd z (by decide)) (fun _ => ?_)
                      refine x_aload_n C 2 rfl rfl dX12_country_129 ?_
                      refine x_V_V C (As := []) (rest := []) 0 0 rfl rfl gX12_country_X12_close rfl (c_X12_close _ _ a (Ct.h CJ) (Ct.n CJ) (Ct.kd CJ) (Ct.fg CJ) (Ct.ag CJ) (Ct.po CJ) (Ct.wy CJ) (Ct.dy CJ) mhw mkk mkf mrs mrm mrw 0 0 G mwa d (pz (uz (fun t => mrw (100 * d + t)) (mrm d)) k) 0 ((k : Int)) PN LO TL mim mhi 47 1 (.ref (a 18)) mun msd mbe mh mn mdy mkd mfg mag mpo mwy) rfl ok_X12_close rfl rfl rfl rfl dX12_country_130 (fun w1 hp => ?_)
                      obtain rfl := hp
                      refine x_sipush C (-2000) (by decide) dX12_country_133 ?_
                      refine x_aload_n C 2 rfl rfl dX12_country_136 ?_
                      refine x_get C in_X12_country_X12 0 rfl rfl 22 (by decide) (List.mem_of_getElem? (i := 8) rfl) rfl (v := .ref (a 15)) rfl dX12_country_137 ?_
                      refine x_iload_n C 0 rfl rfl dX12_country_140 ?_
                      refine x_iaload C (f := PN) 15 rfl (by omega) rfl dX12_country_141 ?_
                      refine x_isub C dX12_country_142 ?_
                      exact hret _ _ _ _ dX12_country_143 rfl ⟨(by have hr : _ = _ := hr; unfold q_country; unfold q_wr; rw [if_pos (show 0 ≤ d ∧ d ≤ 7 by omega), if_neg (show ¬ mhw d = 0 by omega), if_pos (show mhw d = 2 by omega)]; rw [if_neg (show ¬ mrs d ≠ 0 by omega), if_neg (show ¬ 0 ≤ fbad (uz (fun t => mrw (100 * d + t)) (mrm d)) (mrm d) 101 0 by rw [hfb]; decide), hr, show 100 - j = (99 - j) + 1 by omega, runS_no _ hlt gb221, ha2]), Or.inr ⟨(by have := pz_0 (u := (uz (fun t => mrw (100 * d + t)) (mrm d))) j; rw [ha2]; omega), Wk.mk⟩⟩
              exact LP113 ((k - (0)) + 1) (0) ((Lc mh mn mdy mkd mfg mag mpo mwy)) (mgr) _ (by omega) (by omega) (rfl) ((WFm.L hM mdy)) (h1_) (rfl) (by omega)
            · refine x_aload_n C 1 rfl rfl dX12_country_84 ?_
              have h0 : k = 0 ∨ pz (uz (fun t => mrw (100 * d + t)) (mrm d)) k < mrm d := by omega
              have hle := pz_le hR (by omega) h0
              refine x_V_V C (As := []) (rest := []) 0 0 rfl rfl gX12_country_X12_readStatement rfl (c_X12_readStatement _ _ a mh mn mkd mfg mag mpo mwy mdy mhw mkk mkf mrs mrm mrw 0 0 mgr mwa d (pz (uz (fun t => mrw (100 * d + t)) (mrm d)) k) ((k : Int)) PN LO TL mke mim mhi mp0 mtk mki mun msd mbe hM (by omega) (by omega) (by omega)) rfl ok_X12_readStatement rfl rfl rfl rfl dX12_country_85 (fun w1 hp => ?_)
              rcases hp with ⟨gb222, TLb222, fb222, tb222, rfl⟩ | ⟨gb222, LOb222, TLb222, rfl⟩
              · refine x_goto C 57 (by decide) dX12_country_88 ?_
                refine Wx.eqW (ws' := (WM X.γ a mh mn mkd mfg mag mpo mwy mdy mhw mkk mkf mrs mrm mrw 0 0 mgr mwa d (pz (uz (fun t => mrw (100 * d + t)) (mrm d)) (k + 1)) 0 (((k + 1 : Nat) : Int)) (upz PN ((k : Int)) (pz (uz (fun t => mrw (100 * d + t)) (mrm d)) k)) (upz LO ((k : Int)) ((uz (fun t => mrw (100 * d + t)) (mrm d)) (pz (uz (fun t => mrw (100 * d + t)) (mrm d)) k))) TLb222 mke mim mhi mp0 mtk mki mun msd mbe)) (by rw [show ((k + 1 : Nat) : Int) = (k : Int) + 1 by omega]; try rfl) ?_
                exact ih57 (k + 1) (upz PN ((k : Int)) (pz (uz (fun t => mrw (100 * d + t)) (mrm d)) k)) (upz LO ((k : Int)) ((uz (fun t => mrw (100 * d + t)) (mrm d)) (pz (uz (fun t => mrw (100 * d + t)) (mrm d)) k))) (TLb222) (by omega) (by omega) (rdS_s (by omega) hR h0 gb222 fb222 tb222)
              · refine x_goto C 57 (by decide) dX12_country_88 ?_
                refine x_aload_n C 1 rfl rfl dX12_country_57 ?_
                refine x_get C in_X12_country_X12 0 rfl rfl 20 (by decide) (List.mem_of_getElem? (i := 5) rfl) rfl (v := .int (iN (1))) rfl dX12_country_58 ?_
                refine x_if_ne C 91 (by decide) (by decide) dX12_country_61 (fun _ => ?_) (fun z => absurd z (by decide))
                refine x_aload_n C 1 rfl rfl dX12_country_91 ?_
                refine x_get C in_X12_country_X12 0 rfl rfl 20 (by decide) (List.mem_of_getElem? (i := 5) rfl) rfl (v := .int (iN (1))) rfl dX12_country_92 ?_
                refine x_if_eq C 107 (by decide) (by decide) dX12_country_95 (fun z => absurd z (by decide)) (fun _ => ?_)
                refine x_sipush C (-1000) (by decide) dX12_country_98 ?_
                refine x_aload_n C 1 rfl rfl dX12_country_101 ?_
                refine x_get C in_X12_country_X12 0 rfl rfl 19 (by decide) (List.mem_of_getElem? (i := 4) rfl) rfl (v := .int (iN (sbad (uz (fun t => mrw (100 * d + t)) (mrm d)) (pz (uz (fun t => mrw (100 * d + t)) (mrm d)) k)))) rfl dX12_country_102 ?_
                refine x_isub C dX12_country_105 ?_
                exact hret _ _ _ _ dX12_country_106 rfl ⟨(by have e := rdS_f (by omega) hR h0 gb222; unfold q_country; unfold q_wr; rw [if_pos (show 0 ≤ d ∧ d ≤ 7 by omega), if_neg (show ¬ mhw d = 0 by omega), if_pos (show mhw d = 2 by omega)]; rw [if_neg (show ¬ mrs d ≠ 0 by omega), if_pos (show 0 ≤ fbad (uz (fun t => mrw (100 * d + t)) (mrm d)) (mrm d) 101 0 by rw [e]; exact gb222), e]), Or.inr ⟨(by have := gb222; omega), Wk.mk⟩⟩
      exact LP57 ((30 - (0)) + 1) (0) (mpn) (mlo) (mtl) (by omega) (by omega) (rdS_0 _ _ _ _ _)
    · refine x_iload_n C 0 rfl rfl dX12_country_35 ?_
      exact hret _ _ _ _ dX12_country_36 rfl ⟨(by unfold q_country q_wr; omega), Or.inr ⟨(by omega), Wk.mk⟩⟩
  refine x_if_ne C 29 (by decide) (by omega) dX12_country_12 (fun c_12 => ?_) (fun c_12 => ?_)
  · refine x_iload_n C 0 rfl rfl dX12_country_29 ?_
    exact LP30 _ (by omega)
  · refine x_aload_n C 1 rfl rfl dX12_country_15 ?_
    refine x_get C in_X12_country_X12 0 rfl rfl 11 (by decide) (List.mem_of_getElem? (i := 2) rfl) rfl (v := .ref (a 10)) rfl dX12_country_16 ?_
    refine x_iload_n C 2 rfl rfl dX12_country_19 ?_
    refine x_iaload C (f := mrs) 10 rfl (by omega) rfl dX12_country_20 ?_
    have b223 := WFm.rs hM (d)
    refine x_if_eq C 29 (by decide) (by omega) dX12_country_21 (fun c_21 => ?_) (fun c_21 => ?_)
    · refine x_iload_n C 0 rfl rfl dX12_country_29 ?_
      exact LP30 _ (by omega)
    · refine x_bipush C (-12) (by decide) dX12_country_24 ?_
      refine x_goto C 30 (by decide) dX12_country_26 ?_
      exact LP30 _ (by omega)
end HTEXab
