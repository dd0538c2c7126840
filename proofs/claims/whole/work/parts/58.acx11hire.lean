section HXDac
theorem in_X11_hire_X1 : ∀ w ∈ u_ws RX1 TX1 13, w ∈ wsX11_hire := by decide +kernel
theorem in_X11_hire_X11 : ∀ w ∈ u_ws RX11 TX11 6, w ∈ wsX11_hire := by decide +kernel
theorem ok_X11_hire : okY yX11_hire 3 := by decide +kernel
def rmX11_hire : Room := { frames := 5, cells := 0, slots := 0, locals := 113 }
set_option maxRecDepth 100000 in
set_option maxHeartbeats 400000 in
theorem c_X11_hire (l : Launch) (γ : GX) (b : Nat → Nat) (F : Nat → Sh) (N M P : Ct) (hp sd : Int) (hN : WFc N) (hF : ∀ t : Nat, t < 8 → WFs (F t)) (i : Int) (c : Int) (w : Int) (h0_ : -2147483648 ≤ i ∧ i < 2147483648) (h1_ : -2147483648 ≤ c ∧ c < 2147483648) (h2_ : -2147483648 ≤ w ∧ w < 2147483648) : MI l γ yX11_hire wsX11_hire rmX11_hire [.ref (b 0), .int (iN (i)), .int (iN (c)), .int (iN (w))] (WX γ b F N M P hp sd) (fun r_ w_ => r_ = q_hire N i c w ∧ Wc γ b F N P hp w_) 0 0 := by
  refine MI.of (cc := cX11_hire) (maxL := 9) (rt := .int) RX11 rfl (by decide +kernel) rfl (Nat.le_of_ble_eq_true rfl) ?_
  intro X C hγ hl hnm hret
  subst hγ
  have hNn := WFc.n hN
  have bpw := pw_b hNn
  show Wx X 0 0 (WX X.γ b F N M P hp sd) 0 [(0, .ref (b 0)), (1, .int (iN (i))), (2, .int (iN (c))), (3, .int (iN (w)))] []
  refine x_aload_n C 0 rfl rfl dX11_hire_0 ?_
  refine x_get C in_X11_hire_X11 0 rfl rfl 1 (by decide) (List.mem_of_getElem? (i := 1) rfl) rfl (v := .ref (b 27)) rfl dX11_hire_1 ?_
  refine x_iload_n C 1 rfl rfl dX11_hire_4 ?_
  refine x_V_I C (As := [.int (iN (i))]) (rest := []) 1 27 rfl rfl gX11_hire_X1_has rfl (MI.fN b F N M P hp sd (fun r Z => r = (bz (0 ≤ i ∧ i ≤ Ct.n N - 1)) ∧ N = Z) (c_X1_has _ _ (adN b) N hN (i) (by omega)) (fun r w h => ⟨_, ⟨h.1, rfl⟩, h.2⟩)) rfl ok_X1_has rfl rfl rfl rfl dX11_hire_5 (fun r w1 hp => ?_)
  obtain ⟨_, ⟨rfl, rfl⟩, rfl⟩ := hp
  show Wx X 0 0 (WX X.γ b F N M P hp sd) 8 [(0, .ref (b 0)), (1, .int (iN (i))), (2, .int (iN (c))), (3, .int (iN (w)))] [.int (iN (bz (0 ≤ i ∧ i ≤ Ct.n N - 1)))]
  refine x_ifeq_bz C 27 (by decide) dX11_hire_8 (fun c_8 => ?_) (fun c_8 => ?_)
  · refine x_iconst (v := 0) C dX11_hire_27 ?_
    exact hret _ _ _ _ dX11_hire_28 rfl ⟨(by unfold q_hire; rw [if_neg (show ¬ (q_one N i ∧ q_cell c ∧ 0 ≤ w ∧ w ≤ 1) from (show ¬ ((0 ≤ i ∧ i ≤ Ct.n N - 1) ∧ (0 ≤ c ∧ c ≤ 14) ∧ 0 ≤ w ∧ w ≤ 1) by omega))]), ⟨(Ct.wa N), (Ct.wa P), _, _, rfl⟩⟩
  · refine x_iload_n C 2 rfl rfl dX11_hire_11 ?_
    refine x_S_I C (As := [.int (iN (c))]) (rest := []) 1 gX11_hire_X11_isCell (c_X11_isCell _ _ (WX X.γ b F N M P hp sd) (c) (by omega)) rfl ok_X11_isCell rfl rfl rfl rfl dX11_hire_12 (fun r w1 hp => ?_)
    obtain ⟨rfl, rfl⟩ := hp
    refine x_ifeq_bz C 27 (by decide) dX11_hire_15 (fun c_15 => ?_) (fun c_15 => ?_)
    · refine x_iconst (v := 0) C dX11_hire_27 ?_
      exact hret _ _ _ _ dX11_hire_28 rfl ⟨(by unfold q_hire; rw [if_neg (show ¬ (q_one N i ∧ q_cell c ∧ 0 ≤ w ∧ w ≤ 1) from (show ¬ ((0 ≤ i ∧ i ≤ Ct.n N - 1) ∧ (0 ≤ c ∧ c ≤ 14) ∧ 0 ≤ w ∧ w ≤ 1) by omega))]), ⟨(Ct.wa N), (Ct.wa P), _, _, rfl⟩⟩
    · refine x_iload_n C 3 rfl rfl dX11_hire_18 ?_
      refine x_iconst (v := 0) C dX11_hire_19 ?_
      refine x_iconst (v := 0) C dX11_hire_20 ?_
      refine x_S_I C (As := [.int (iN (w)), .int (iN (0)), .int (iN (1))]) (rest := []) 3 gX11_hire_X11_isWithin (c_X11_isWithin _ _ (WX X.γ b F N M P hp sd) (w) (0) (1) (by omega) (by omega) (by omega)) rfl ok_X11_isWithin rfl rfl rfl rfl dX11_hire_21 (fun r w1 hp => ?_)
      obtain ⟨rfl, rfl⟩ := hp
      refine x_ifne_bz C 29 (by decide) dX11_hire_24 (fun c_24 => ?_) (fun c_24 => ?_)
      · refine x_bipush C (-4) (by decide) dX11_hire_29 ?_
        refine x_istore C [(4, .int (iN (-4))), (0, .ref (b 0)), (1, .int (iN (i))), (2, .int (iN (c))), (3, .int (iN (w)))] (by decide) rfl dX11_hire_31 ?_
        refine x_bipush C (-4) (by decide) dX11_hire_33 ?_
        refine x_istore C [(5, .int (iN (-4))), (4, .int (iN (-4))), (0, .ref (b 0)), (1, .int (iN (i))), (2, .int (iN (c))), (3, .int (iN (w)))] (by decide) rfl dX11_hire_35 ?_
        refine x_iconst (v := 0) C dX11_hire_37 ?_
        refine x_istore C [(6, .int (iN (0))), (5, .int (iN (-4))), (4, .int (iN (-4))), (0, .ref (b 0)), (1, .int (iN (i))), (2, .int (iN (c))), (3, .int (iN (w)))] (by decide) rfl dX11_hire_38 ?_
        have LP40 : ∀ (f : Nat) (k : Nat) (M1 : Ct) (v6_40 : Int) (v5_40 : Int) (v4_40 : Int), (pw (Ct.n N) - k < f) → (k ≤ pw (Ct.n N)) → (((k : Int)) = v6_40) → (v5_40 = (if hrz N i c k < 0 then -4 else q_pay N (hrz N i c k))) → (v4_40 = (hrz N i c k)) → Wx X 0 0 (WX X.γ b F N M1 P hp sd) 40 [(6, .int (iN (v6_40))), (5, .int (iN (v5_40))), (4, .int (iN (v4_40))), (0, .ref (b 0)), (1, .int (iN (i))), (2, .int (iN (c))), (3, .int (iN (w)))] [] := by
          intro f
          induction f with
          | zero => intro k M1 v6_40 v5_40 v4_40 hf; exact absurd hf (Nat.not_lt_zero _)
          | succ f ih40 =>
            intro k M1 v6_40 v5_40 v4_40 hf hk e6_40 e5_40 e4_40
            subst e6_40
            have bc := hrz_b N i c k
            rw [← e4_40] at e5_40
            have bp2 := q_pay_b hN v4_40
            refine x_iload C 0 rfl dX11_hire_40 ?_
            refine x_iconst (v := 0) C dX11_hire_42 ?_
            refine x_aload_n C 3 rfl rfl dX11_hire_43 ?_
            refine x_get C in_X11_hire_X11 0 rfl rfl 1 (by decide) (List.mem_of_getElem? (i := 1) rfl) rfl (v := .ref (b 27)) rfl dX11_hire_44 ?_
            refine x_get C in_X11_hire_X1 27 rfl rfl 2 (by decide) (List.mem_of_getElem? (i := 2) rfl) rfl (v := .int (iN (Ct.n N))) rfl dX11_hire_47 ?_
            refine x_ishl C ((pw (Ct.n N) : Nat) : Int) (iN_shlp hNn) dX11_hire_50 ?_
            refine x_icmp_ge C 125 (by decide) (by omega) dX11_hire_51 (fun c_51 => ?_) (fun c_51 => ?_)
            · refine x_iload_n C 6 rfl rfl dX11_hire_125 ?_
              refine x_if_ne C 134 (by decide) (by omega) dX11_hire_126 (fun c_126 => ?_) (fun c_126 => ?_)
              · refine x_iload C 1 rfl dX11_hire_134 ?_
                exact hret _ _ _ _ dX11_hire_136 rfl ⟨(by have hz : k = pw (Ct.n N) := (by omega); subst hz; unfold q_hire; rw [if_pos (show q_one N i ∧ q_cell c ∧ 0 ≤ w ∧ w ≤ 1 from (show (0 ≤ i ∧ i ≤ Ct.n N - 1) ∧ (0 ≤ c ∧ c ≤ 14) ∧ 0 ≤ w ∧ w ≤ 1 by omega)), ← e4_40]; rw [e5_40]; by_cases hq : v4_40 < 0; (rw [if_pos hq, if_pos (Or.inr hq)]; omega); (rw [if_neg hq, if_neg (show ¬ (w = 0 ∨ v4_40 < 0) by omega)])), ⟨(Ct.wa N), (Ct.wa P), _, _, rfl⟩⟩
              · refine x_iload C 2 rfl dX11_hire_129 ?_
                refine x_goto C 136 (by decide) dX11_hire_131 ?_
                exact hret _ _ _ _ dX11_hire_136 rfl ⟨(by have hz : k = pw (Ct.n N) := (by omega); subst hz; unfold q_hire; rw [if_pos (show q_one N i ∧ q_cell c ∧ 0 ≤ w ∧ w ≤ 1 from (show (0 ≤ i ∧ i ≤ Ct.n N - 1) ∧ (0 ≤ c ∧ c ≤ 14) ∧ 0 ≤ w ∧ w ≤ 1 by omega)), ← e4_40]; rw [if_pos (show w = 0 ∨ v4_40 < 0 by omega)]), ⟨(Ct.wa N), (Ct.wa P), _, _, rfl⟩⟩
            · refine x_aload_n C 3 rfl rfl dX11_hire_54 ?_
              refine x_get C in_X11_hire_X11 0 rfl rfl 1 (by decide) (List.mem_of_getElem? (i := 1) rfl) rfl (v := .ref (b 27)) rfl dX11_hire_55 ?_
              refine x_iload C 0 rfl dX11_hire_58 ?_
              refine x_V_I C (As := [.int (iN ((k : Int)))]) (rest := []) 1 27 rfl rfl gX11_hire_X1_payOf rfl (MI.kN b F N M1 P hp sd (fun r Z => r = (sumz (fun i => if btz ((k : Int)) i then shF (Ct.kd N i) (Ct.fg N i) (Ct.ag N i) / 10 + 1 else 0) (Ct.n N).toNat) ∧ N = Z) (c_X1_payOf _ _ (adN b) N hN ((k : Int)) (by omega)) (fun r w h => ⟨_, ⟨h.1, rfl⟩, h.2⟩)) rfl ok_X1_payOf rfl rfl rfl rfl dX11_hire_60 (fun r w1 hp => ?_)
              obtain ⟨_, ⟨rfl, rfl⟩, rfl⟩ := hp
              show Wx X 0 0 (WX X.γ b F N M1 P hp sd) 63 [(6, .int (iN ((k : Int)))), (5, .int (iN (v5_40))), (4, .int (iN (v4_40))), (0, .ref (b 0)), (1, .int (iN (i))), (2, .int (iN (c))), (3, .int (iN (w)))] [.int (iN (sumz (fun i => if btz ((k : Int)) i then shF (Ct.kd N i) (Ct.fg N i) (Ct.ag N i) / 10 + 1 else 0) (Ct.n N).toNat))]
              show Wx X 0 0 (WX X.γ b F N M1 P hp sd) 63 [(6, .int (iN ((k : Int)))), (5, .int (iN (v5_40))), (4, .int (iN (v4_40))), (0, .ref (b 0)), (1, .int (iN (i))), (2, .int (iN (c))), (3, .int (iN (w)))] [.int (iN (sumz (fun i => if btz ((k : Int)) i then shF (Ct.kd N i) (Ct.fg N i) (Ct.ag N i) / 10 + 1 else 0) (Ct.n N).toNat))]
              rw [show sumz (fun i => if btz ((k : Int)) i then shF (Ct.kd N i) (Ct.fg N i) (Ct.ag N i) / 10 + 1 else 0) (Ct.n N).toNat = q_pay N (k : Int) from rfl]
              have bp1 := q_pay_b hN (k : Int)
              refine x_istore C [(7, .int (iN (q_pay N (k : Int)))), (6, .int (iN ((k : Int)))), (5, .int (iN (v5_40))), (4, .int (iN (v4_40))), (0, .ref (b 0)), (1, .int (iN (i))), (2, .int (iN (c))), (3, .int (iN (w)))] (by decide) rfl dX11_hire_63 ?_
              refine x_iload C 3 rfl dX11_hire_65 ?_
              refine x_bipush C (-4) (by decide) dX11_hire_67 ?_
              have LP84 : ∀ (s0_84 : Int), (s0_84 = (if v4_40 = -4 ∨ q_pay N (k : Int) < v5_40 then 1 else 0)) → Wx X 0 0 (WX X.γ b F N M1 P hp sd) 84 [(7, .int (iN (q_pay N (k : Int)))), (6, .int (iN ((k : Int)))), (5, .int (iN (v5_40))), (4, .int (iN (v4_40))), (0, .ref (b 0)), (1, .int (iN (i))), (2, .int (iN (c))), (3, .int (iN (w)))] [.int (iN (s0_84))] := by
                intro s0_84 es0_84
                refine x_istore C [(8, .int (iN (s0_84))), (7, .int (iN (q_pay N (k : Int)))), (6, .int (iN ((k : Int)))), (5, .int (iN (v5_40))), (4, .int (iN (v4_40))), (0, .ref (b 0)), (1, .int (iN (i))), (2, .int (iN (c))), (3, .int (iN (w)))] (by decide) rfl dX11_hire_84 ?_
                refine x_iload C 0 rfl dX11_hire_86 ?_
                refine x_if_eq C 119 (by decide) (by omega) dX11_hire_88 (fun c_88 => ?_) (fun c_88 => ?_)
                · refine x_iinc C 2 [(6, .int (iN ((k : Int) + 1))), (8, .int (iN (s0_84))), (7, .int (iN (q_pay N (k : Int)))), (5, .int (iN (v5_40))), (4, .int (iN (v4_40))), (0, .ref (b 0)), (1, .int (iN (i))), (2, .int (iN (c))), (3, .int (iN (w)))] rfl rfl (by decide) rfl dX11_hire_119 ?_
                  refine x_goto C 40 (by decide) dX11_hire_122 ?_
                  refine Wx.subL [0, 3, 4, 5, 6, 7, 8] rfl ?_
                  exact ih40 (k + 1) (M1) _ _ _ (by omega) (by omega) (by omega) (by rw [← (show v4_40 = hrz N i c (k + 1) from by rw [e4_40]; exact (hrz_n (fun z => absurd z.1 (by rw [← e4_40]; omega))).symm)]; exact e5_40) (by rw [e4_40]; exact (hrz_n (fun z => absurd z.1 (by rw [← e4_40]; omega))).symm)
                · refine x_iload C 2 rfl dX11_hire_91 ?_
                  refine x_iload_n C 6 rfl rfl dX11_hire_93 ?_
                  refine x_S_I C (As := [.int (iN ((k : Int))), .int (iN (i))]) (rest := []) 2 gX11_hire_X11_isIn (c_X11_isIn _ _ (WX X.γ b F N M1 P hp sd) ((k : Int)) (i) (by omega) (by omega)) rfl ok_X11_isIn rfl rfl rfl rfl dX11_hire_94 (fun r w1 hp => ?_)
                  obtain ⟨rfl, rfl⟩ := hp
                  refine x_ifne_bz C 119 (by decide) dX11_hire_97 (fun c_97 => ?_) (fun c_97 => ?_)
                  · refine x_iinc C 2 [(6, .int (iN ((k : Int) + 1))), (8, .int (iN (s0_84))), (7, .int (iN (q_pay N (k : Int)))), (5, .int (iN (v5_40))), (4, .int (iN (v4_40))), (0, .ref (b 0)), (1, .int (iN (i))), (2, .int (iN (c))), (3, .int (iN (w)))] rfl rfl (by decide) rfl dX11_hire_119 ?_
                    refine x_goto C 40 (by decide) dX11_hire_122 ?_
                    refine Wx.subL [0, 3, 4, 5, 6, 7, 8] rfl ?_
                    exact ih40 (k + 1) (M1) _ _ _ (by omega) (by omega) (by omega) (by rw [← (show v4_40 = hrz N i c (k + 1) from by rw [e4_40]; exact (hrz_n (fun z => z.2.1 c_97)).symm)]; exact e5_40) (by rw [e4_40]; exact (hrz_n (fun z => z.2.1 c_97)).symm)
                  · refine x_aload_n C 5 rfl rfl dX11_hire_100 ?_
                    refine x_iload_n C 6 rfl rfl dX11_hire_101 ?_
                    refine x_iload C 2 rfl dX11_hire_102 ?_
                    refine x_iload_n C 7 rfl rfl dX11_hire_104 ?_
                    refine x_V_I C (As := [.int (iN (i)), .int (iN ((k : Int))), .int (iN (c))]) (rest := []) 3 0 rfl rfl gX11_hire_X11_getsThere rfl (c_X11_getsThere _ _ b F N M1 P hp sd hN hF (i) ((k : Int)) (c) (by omega) (by omega) (by omega)) rfl ok_X11_getsThere rfl rfl rfl rfl dX11_hire_105 (fun r w1 hp => ?_)
                    obtain ⟨rfl, Mb116, rfl⟩ := hp
                    show Wx X 0 0 (WX X.γ b F N Mb116 P hp sd) 108 [(8, .int (iN (s0_84))), (7, .int (iN (q_pay N (k : Int)))), (6, .int (iN ((k : Int)))), (5, .int (iN (v5_40))), (4, .int (iN (v4_40))), (0, .ref (b 0)), (1, .int (iN (i))), (2, .int (iN (c))), (3, .int (iN (w)))] [.int (iN (Ct.wt N i ((k : Int)) c (if c < Ct.po N i then -1 else 1) 15 (Ct.po N)))]
                    have wb116 : Ct.wt N i ((k : Int)) c (if c < Ct.po N i then -1 else 1) 15 (Ct.po N) = 0 ∨ Ct.wt N i ((k : Int)) c (if c < Ct.po N i then -1 else 1) 15 (Ct.po N) = 1 := wto_01 _ _ _ _ _ _ _ _ _ _ _
                    refine x_if_eq C 119 (by decide) (by omega) dX11_hire_108 (fun c_108 => ?_) (fun c_108 => ?_)
                    · refine x_iinc C 2 [(6, .int (iN ((k : Int) + 1))), (8, .int (iN (s0_84))), (7, .int (iN (q_pay N (k : Int)))), (5, .int (iN (v5_40))), (4, .int (iN (v4_40))), (0, .ref (b 0)), (1, .int (iN (i))), (2, .int (iN (c))), (3, .int (iN (w)))] rfl rfl (by decide) rfl dX11_hire_119 ?_
                      refine x_goto C 40 (by decide) dX11_hire_122 ?_
                      refine Wx.subL [0, 3, 4, 5, 6, 7, 8] rfl ?_
                      exact ih40 (k + 1) (Mb116) _ _ _ (by omega) (by omega) (by omega) (by rw [← (show v4_40 = hrz N i c (k + 1) from by rw [e4_40]; exact (hrz_n (fun z => absurd ((gets_iff hN (by omega)).mpr z.2.2) (by omega))).symm)]; exact e5_40) (by rw [e4_40]; exact (hrz_n (fun z => absurd ((gets_iff hN (by omega)).mpr z.2.2) (by omega))).symm)
                    · refine x_iload C 1 rfl dX11_hire_111 ?_
                      refine x_istore C [(5, .int (iN (q_pay N (k : Int)))), (8, .int (iN (s0_84))), (7, .int (iN (q_pay N (k : Int)))), (6, .int (iN ((k : Int)))), (4, .int (iN (v4_40))), (0, .ref (b 0)), (1, .int (iN (i))), (2, .int (iN (c))), (3, .int (iN (w)))] (by decide) rfl dX11_hire_113 ?_
                      refine x_iload C 3 rfl dX11_hire_115 ?_
                      refine x_istore C [(4, .int (iN ((k : Int)))), (5, .int (iN (q_pay N (k : Int)))), (8, .int (iN (s0_84))), (7, .int (iN (q_pay N (k : Int)))), (6, .int (iN ((k : Int)))), (0, .ref (b 0)), (1, .int (iN (i))), (2, .int (iN (c))), (3, .int (iN (w)))] (by decide) rfl dX11_hire_117 ?_
                      refine x_iinc C 4 [(6, .int (iN ((k : Int) + 1))), (4, .int (iN ((k : Int)))), (5, .int (iN (q_pay N (k : Int)))), (8, .int (iN (s0_84))), (7, .int (iN (q_pay N (k : Int)))), (0, .ref (b 0)), (1, .int (iN (i))), (2, .int (iN (c))), (3, .int (iN (w)))] rfl rfl (by decide) rfl dX11_hire_119 ?_
                      refine x_goto C 40 (by decide) dX11_hire_122 ?_
                      refine Wx.subL [0, 2, 1, 5, 6, 7, 8] rfl ?_
                      exact ih40 (k + 1) (Mb116) _ _ _ (by omega) (by omega) (by omega) (by rw [← (show (k : Int) = hrz N i c (k + 1) from (hrz_y ⟨(by rw [← e4_40]; omega), c_97, (gets_iff hN (by omega)).mp (by omega)⟩).symm), if_neg (by omega)]) ((hrz_y ⟨(by rw [← e4_40]; omega), c_97, (gets_iff hN (by omega)).mp (by omega)⟩).symm)
              refine x_icmp_eq C 79 (by decide) (by omega) dX11_hire_69 (fun c_69 => ?_) (fun c_69 => ?_)
              · refine x_iconst (v := 0) C dX11_hire_79 ?_
                refine x_goto C 84 (by decide) dX11_hire_80 ?_
                exact LP84 _ (by omega)
              · refine x_iload C 0 rfl dX11_hire_72 ?_
                refine x_iload C 2 rfl dX11_hire_74 ?_
                refine x_icmp_ge C 83 (by decide) (by omega) dX11_hire_76 (fun c_76 => ?_) (fun c_76 => ?_)
                · refine x_iconst (v := 0) C dX11_hire_83 ?_
                  exact LP84 _ (by omega)
                · refine x_iconst (v := 0) C dX11_hire_79 ?_
                  refine x_goto C 84 (by decide) dX11_hire_80 ?_
                  exact LP84 _ (by omega)
        exact LP40 ((pw (Ct.n N) - (0)) + 1) (0) (M) _ _ _ (by omega) (by omega) (by omega) (rfl) (rfl)
      · refine x_iconst (v := 0) C dX11_hire_27 ?_
        exact hret _ _ _ _ dX11_hire_28 rfl ⟨(by unfold q_hire; rw [if_neg (show ¬ (q_one N i ∧ q_cell c ∧ 0 ≤ w ∧ w ≤ 1) from (show ¬ ((0 ≤ i ∧ i ≤ Ct.n N - 1) ∧ (0 ≤ c ∧ c ≤ 14) ∧ 0 ≤ w ∧ w ≤ 1) by omega))]), ⟨(Ct.wa N), (Ct.wa P), _, _, rfl⟩⟩
end HXDac
