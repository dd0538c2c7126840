section HXDab
theorem in_X11_company_X1 : ∀ w ∈ u_ws RX1 TX1 13, w ∈ wsX11_company := by decide +kernel
theorem in_X11_company_X11 : ∀ w ∈ u_ws RX11 TX11 6, w ∈ wsX11_company := by decide +kernel
theorem ok_X11_company : okY yX11_company 2 := by decide +kernel
def rmX11_company : Room := { frames := 5, cells := 0, slots := 0, locals := 113 }
set_option maxRecDepth 100000 in
set_option maxHeartbeats 400000 in
theorem c_X11_company (l : Launch) (γ : GX) (b : Nat → Nat) (F : Nat → Sh) (N M P : Ct) (hp sd : Int) (hN : WFc N) (hF : ∀ t : Nat, t < 8 → WFs (F t)) (i : Int) (c : Int) (h0_ : -2147483648 ≤ i ∧ i < 2147483648) (h1_ : -2147483648 ≤ c ∧ c < 2147483648) : MI l γ yX11_company wsX11_company rmX11_company [.ref (b 0), .int (iN (i)), .int (iN (c))] (WX γ b F N M P hp sd) (fun r_ w_ => r_ = q_company N i c ∧ Wc γ b F N P hp w_) 0 0 := by
  refine MI.of (cc := cX11_company) (maxL := 7) (rt := .int) RX11 rfl (by decide +kernel) rfl (Nat.le_of_ble_eq_true rfl) ?_
  intro X C hγ hl hnm hret
  subst hγ
  have hNn := WFc.n hN
  have bpw := pw_b hNn
  show Wx X 0 0 (WX X.γ b F N M P hp sd) 0 [(0, .ref (b 0)), (1, .int (iN (i))), (2, .int (iN (c)))] []
  refine x_aload_n C 0 rfl rfl dX11_company_0 ?_
  refine x_get C in_X11_company_X11 0 rfl rfl 1 (by decide) (List.mem_of_getElem? (i := 1) rfl) rfl (v := .ref (b 27)) rfl dX11_company_1 ?_
  refine x_iload_n C 1 rfl rfl dX11_company_4 ?_
  refine x_V_I C (As := [.int (iN (i))]) (rest := []) 1 27 rfl rfl gX11_company_X1_has rfl (MI.fN b F N M P hp sd (fun r Z => r = (bz (0 ≤ i ∧ i ≤ Ct.n N - 1)) ∧ N = Z) (c_X1_has _ _ (adN b) N hN (i) (by omega)) (fun r w h => ⟨_, ⟨h.1, rfl⟩, h.2⟩)) rfl ok_X1_has rfl rfl rfl rfl dX11_company_5 (fun r w1 hp => ?_)
  obtain ⟨_, ⟨rfl, rfl⟩, rfl⟩ := hp
  show Wx X 0 0 (WX X.γ b F N M P hp sd) 8 [(0, .ref (b 0)), (1, .int (iN (i))), (2, .int (iN (c)))] [.int (iN (bz (0 ≤ i ∧ i ≤ Ct.n N - 1)))]
  refine x_ifeq_bz C 18 (by decide) dX11_company_8 (fun c_8 => ?_) (fun c_8 => ?_)
  · refine x_iconst (v := 0) C dX11_company_18 ?_
    exact hret _ _ _ _ dX11_company_19 rfl ⟨(by unfold q_company; rw [if_neg (show ¬ (q_one N i ∧ q_cell c) from (show ¬ ((0 ≤ i ∧ i ≤ Ct.n N - 1) ∧ 0 ≤ c ∧ c ≤ 14) by omega))]), ⟨(Ct.wa N), (Ct.wa P), _, _, rfl⟩⟩
  · refine x_iload_n C 2 rfl rfl dX11_company_11 ?_
    refine x_S_I C (As := [.int (iN (c))]) (rest := []) 1 gX11_company_X11_isCell (c_X11_isCell _ _ (WX X.γ b F N M P hp sd) (c) (by omega)) rfl ok_X11_isCell rfl rfl rfl rfl dX11_company_12 (fun r w1 hp => ?_)
    obtain ⟨rfl, rfl⟩ := hp
    refine x_ifne_bz C 20 (by decide) dX11_company_15 (fun c_15 => ?_) (fun c_15 => ?_)
    · refine x_bipush C (-4) (by decide) dX11_company_20 ?_
      refine x_istore_n C [(3, .int (iN (-4))), (0, .ref (b 0)), (1, .int (iN (i))), (2, .int (iN (c)))] rfl (by decide) rfl dX11_company_22 ?_
      refine x_bipush C (7) (by decide) dX11_company_23 ?_
      refine x_istore C [(4, .int (iN (7))), (3, .int (iN (-4))), (0, .ref (b 0)), (1, .int (iN (i))), (2, .int (iN (c)))] (by decide) rfl dX11_company_25 ?_
      refine x_iconst (v := 0) C dX11_company_27 ?_
      refine x_istore C [(5, .int (iN (0))), (4, .int (iN (7))), (3, .int (iN (-4))), (0, .ref (b 0)), (1, .int (iN (i))), (2, .int (iN (c)))] (by decide) rfl dX11_company_28 ?_
      have LP30 : ∀ (f : Nat) (k : Nat) (M1 : Ct) (v5_30 : Int) (v4_30 : Int) (v3_30 : Int), (pw (Ct.n N) - k < f) → (k ≤ pw (Ct.n N)) → (((k : Int)) = v5_30) → (v4_30 = (if cmpz N i c k < 0 then 7 else (pc6 (cmpz N i c k).toNat : Int))) → (v3_30 = (cmpz N i c k)) → Wx X 0 0 (WX X.γ b F N M1 P hp sd) 30 [(5, .int (iN (v5_30))), (4, .int (iN (v4_30))), (3, .int (iN (v3_30))), (0, .ref (b 0)), (1, .int (iN (i))), (2, .int (iN (c)))] [] := by
        intro f
        induction f with
        | zero => intro k M1 v5_30 v4_30 v3_30 hf; exact absurd hf (Nat.not_lt_zero _)
        | succ f ih30 =>
          intro k M1 v5_30 v4_30 v3_30 hf hk e5_30 e4_30 e3_30
          subst e5_30
          have bc := cmpz_b N i c k
          rw [← e3_30] at e4_30
          have p62 : pc6 v3_30.toNat ≤ 6 := by unfold pc6; omega
          refine x_iload C 0 rfl dX11_company_30 ?_
          refine x_iconst (v := 0) C dX11_company_32 ?_
          refine x_aload_n C 3 rfl rfl dX11_company_33 ?_
          refine x_get C in_X11_company_X11 0 rfl rfl 1 (by decide) (List.mem_of_getElem? (i := 1) rfl) rfl (v := .ref (b 27)) rfl dX11_company_34 ?_
          refine x_get C in_X11_company_X1 27 rfl rfl 2 (by decide) (List.mem_of_getElem? (i := 2) rfl) rfl (v := .int (iN (Ct.n N))) rfl dX11_company_37 ?_
          refine x_ishl C ((pw (Ct.n N) : Nat) : Int) (iN_shlp hNn) dX11_company_40 ?_
          refine x_icmp_ge C 91 (by decide) (by omega) dX11_company_41 (fun c_41 => ?_) (fun c_41 => ?_)
          · refine x_iload_n C 2 rfl rfl dX11_company_91 ?_
            exact hret _ _ _ _ dX11_company_92 rfl ⟨(by unfold q_company; rw [if_pos (show q_one N i ∧ q_cell c from (show (0 ≤ i ∧ i ≤ Ct.n N - 1) ∧ 0 ≤ c ∧ c ≤ 14 by omega)), show pw (Ct.n N) = k by omega]; exact e3_30), ⟨(Ct.wa N), (Ct.wa P), _, _, rfl⟩⟩
          · refine x_iload C 0 rfl dX11_company_44 ?_
            refine x_S_I C (As := [.int (iN ((k : Int)))]) (rest := []) 1 gX11_company_J6_bitCount_0f7a4 (c_J6_bitCount_0f7a4 _ _ (WX X.γ b F N M1 P hp sd) ((k : Int)) (by omega)) rfl ok_J6_bitCount_0f7a4 rfl rfl rfl rfl dX11_company_46 (fun r w1 hp => ?_)
            obtain ⟨rfl, rfl⟩ := hp
            show Wx X 0 0 (WX X.γ b F N M1 P hp sd) 49 [(5, .int (iN ((k : Int)))), (4, .int (iN (v4_30))), (3, .int (iN (v3_30))), (0, .ref (b 0)), (1, .int (iN (i))), (2, .int (iN (c)))] [.int (iN ((pcn ((k : Int)).toNat : Int)))]
            rw [show (pcn ((k : Int)).toNat : Int) = (pc6 k : Int) from by rw [Int.toNat_natCast, pcn_6 (by omega)]]
            have p61 : pc6 k ≤ 6 := by unfold pc6; omega
            refine x_istore C [(6, .int (iN ((pc6 k : Int)))), (5, .int (iN ((k : Int)))), (4, .int (iN (v4_30))), (3, .int (iN (v3_30))), (0, .ref (b 0)), (1, .int (iN (i))), (2, .int (iN (c)))] (by decide) rfl dX11_company_49 ?_
            refine x_iload C 0 rfl dX11_company_51 ?_
            refine x_iload C 2 rfl dX11_company_53 ?_
            refine x_icmp_ge C 85 (by decide) (by omega) dX11_company_55 (fun c_55 => ?_) (fun c_55 => ?_)
            · refine x_iinc C 1 [(5, .int (iN ((k : Int) + 1))), (6, .int (iN ((pc6 k : Int)))), (4, .int (iN (v4_30))), (3, .int (iN (v3_30))), (0, .ref (b 0)), (1, .int (iN (i))), (2, .int (iN (c)))] rfl rfl (by decide) rfl dX11_company_85 ?_
              refine x_goto C 30 (by decide) dX11_company_88 ?_
              refine Wx.subL [0, 2, 3, 4, 5, 6] rfl ?_
              exact ih30 (k + 1) (M1) _ _ _ (by omega) (by omega) (by omega) (by rw [← (show v3_30 = cmpz N i c (k + 1) from by rw [e3_30]; exact (cmpz_n (fun z => absurd z.1 (by rw [← e3_30]; omega))).symm)]; exact e4_30) (by rw [e3_30]; exact (cmpz_n (fun z => absurd z.1 (by rw [← e3_30]; omega))).symm)
            · refine x_iload C 1 rfl dX11_company_58 ?_
              refine x_iload_n C 5 rfl rfl dX11_company_60 ?_
              refine x_S_I C (As := [.int (iN ((k : Int))), .int (iN (i))]) (rest := []) 2 gX11_company_X11_isIn (c_X11_isIn _ _ (WX X.γ b F N M1 P hp sd) ((k : Int)) (i) (by omega) (by omega)) rfl ok_X11_isIn rfl rfl rfl rfl dX11_company_61 (fun r w1 hp => ?_)
              obtain ⟨rfl, rfl⟩ := hp
              refine x_ifne_bz C 85 (by decide) dX11_company_64 (fun c_64 => ?_) (fun c_64 => ?_)
              · refine x_iinc C 1 [(5, .int (iN ((k : Int) + 1))), (6, .int (iN ((pc6 k : Int)))), (4, .int (iN (v4_30))), (3, .int (iN (v3_30))), (0, .ref (b 0)), (1, .int (iN (i))), (2, .int (iN (c)))] rfl rfl (by decide) rfl dX11_company_85 ?_
                refine x_goto C 30 (by decide) dX11_company_88 ?_
                refine Wx.subL [0, 2, 3, 4, 5, 6] rfl ?_
                exact ih30 (k + 1) (M1) _ _ _ (by omega) (by omega) (by omega) (by rw [← (show v3_30 = cmpz N i c (k + 1) from by rw [e3_30]; exact (cmpz_n (fun z => z.2.1 c_64)).symm)]; exact e4_30) (by rw [e3_30]; exact (cmpz_n (fun z => z.2.1 c_64)).symm)
              · refine x_aload_n C 4 rfl rfl dX11_company_67 ?_
                refine x_iload_n C 5 rfl rfl dX11_company_68 ?_
                refine x_iload C 1 rfl dX11_company_69 ?_
                refine x_iload_n C 6 rfl rfl dX11_company_71 ?_
                refine x_V_I C (As := [.int (iN (i)), .int (iN ((k : Int))), .int (iN (c))]) (rest := []) 3 0 rfl rfl gX11_company_X11_getsThere rfl (c_X11_getsThere _ _ b F N M1 P hp sd hN hF (i) ((k : Int)) (c) (by omega) (by omega) (by omega)) rfl ok_X11_getsThere rfl rfl rfl rfl dX11_company_72 (fun r w1 hp => ?_)
                obtain ⟨rfl, Mb115, rfl⟩ := hp
                show Wx X 0 0 (WX X.γ b F N Mb115 P hp sd) 75 [(6, .int (iN ((pc6 k : Int)))), (5, .int (iN ((k : Int)))), (4, .int (iN (v4_30))), (3, .int (iN (v3_30))), (0, .ref (b 0)), (1, .int (iN (i))), (2, .int (iN (c)))] [.int (iN (Ct.wt N i ((k : Int)) c (if c < Ct.po N i then -1 else 1) 15 (Ct.po N)))]
                have wb115 : Ct.wt N i ((k : Int)) c (if c < Ct.po N i then -1 else 1) 15 (Ct.po N) = 0 ∨ Ct.wt N i ((k : Int)) c (if c < Ct.po N i then -1 else 1) 15 (Ct.po N) = 1 := wto_01 _ _ _ _ _ _ _ _ _ _ _
                refine x_if_eq C 85 (by decide) (by omega) dX11_company_75 (fun c_75 => ?_) (fun c_75 => ?_)
                · refine x_iinc C 1 [(5, .int (iN ((k : Int) + 1))), (6, .int (iN ((pc6 k : Int)))), (4, .int (iN (v4_30))), (3, .int (iN (v3_30))), (0, .ref (b 0)), (1, .int (iN (i))), (2, .int (iN (c)))] rfl rfl (by decide) rfl dX11_company_85 ?_
                  refine x_goto C 30 (by decide) dX11_company_88 ?_
                  refine Wx.subL [0, 2, 3, 4, 5, 6] rfl ?_
                  exact ih30 (k + 1) (Mb115) _ _ _ (by omega) (by omega) (by omega) (by rw [← (show v3_30 = cmpz N i c (k + 1) from by rw [e3_30]; exact (cmpz_n (fun z => absurd ((gets_iff hN (by omega)).mpr z.2.2) (by omega))).symm)]; exact e4_30) (by rw [e3_30]; exact (cmpz_n (fun z => absurd ((gets_iff hN (by omega)).mpr z.2.2) (by omega))).symm)
                · refine x_iload C 0 rfl dX11_company_78 ?_
                  refine x_istore C [(4, .int (iN ((pc6 k : Int)))), (6, .int (iN ((pc6 k : Int)))), (5, .int (iN ((k : Int)))), (3, .int (iN (v3_30))), (0, .ref (b 0)), (1, .int (iN (i))), (2, .int (iN (c)))] (by decide) rfl dX11_company_80 ?_
                  refine x_iload C 2 rfl dX11_company_82 ?_
                  refine x_istore_n C [(3, .int (iN ((k : Int)))), (4, .int (iN ((pc6 k : Int)))), (6, .int (iN ((pc6 k : Int)))), (5, .int (iN ((k : Int)))), (0, .ref (b 0)), (1, .int (iN (i))), (2, .int (iN (c)))] rfl (by decide) rfl dX11_company_84 ?_
                  refine x_iinc C 3 [(5, .int (iN ((k : Int) + 1))), (3, .int (iN ((k : Int)))), (4, .int (iN ((pc6 k : Int)))), (6, .int (iN ((pc6 k : Int)))), (0, .ref (b 0)), (1, .int (iN (i))), (2, .int (iN (c)))] rfl rfl (by decide) rfl dX11_company_85 ?_
                  refine x_goto C 30 (by decide) dX11_company_88 ?_
                  refine Wx.subL [0, 2, 1, 4, 5, 6] rfl ?_
                  exact ih30 (k + 1) (Mb115) _ _ _ (by omega) (by omega) (by omega) (by rw [← (show (k : Int) = cmpz N i c (k + 1) from (cmpz_y ⟨(by rw [← e3_30]; omega), c_64, (gets_iff hN (by omega)).mp (by omega)⟩).symm), if_neg (by omega), Int.toNat_natCast]) ((cmpz_y ⟨(by rw [← e3_30]; omega), c_64, (gets_iff hN (by omega)).mp (by omega)⟩).symm)
      exact LP30 ((pw (Ct.n N) - (0)) + 1) (0) (M) _ _ _ (by omega) (by omega) (by omega) (rfl) (rfl)
    · refine x_iconst (v := 0) C dX11_company_18 ?_
      exact hret _ _ _ _ dX11_company_19 rfl ⟨(by unfold q_company; rw [if_neg (show ¬ (q_one N i ∧ q_cell c) from (show ¬ ((0 ≤ i ∧ i ≤ Ct.n N - 1) ∧ 0 ≤ c ∧ c ≤ 14) by omega))]), ⟨(Ct.wa N), (Ct.wa P), _, _, rfl⟩⟩
end HXDab
