section HXCap
theorem in_X11_far_X11 : ∀ w ∈ u_ws RX11 TX11 6, w ∈ wsX11_far := by decide +kernel
theorem ok_X11_far : okY yX11_far 2 := by decide +kernel
def rmX11_far : Room := { frames := 4, cells := 0, slots := 0, locals := 88 }
set_option maxRecDepth 100000 in
set_option maxHeartbeats 400000 in
theorem c_X11_far (l : Launch) (γ : GX) (b : Nat → Nat) (F : Nat → Sh) (N M P : Ct) (hp sd : Int) (hN : WFc N) (hF : ∀ t : Nat, t < 8 → WFs (F t)) (i : Int) (w : Int) (h0_ : -2147483648 ≤ i ∧ i < 2147483648) (h1_ : -2147483648 ≤ w ∧ w < 2147483648) : MI l γ yX11_far wsX11_far rmX11_far [.ref (b 0), .int (iN (i)), .int (iN (w))] (WX γ b F N M P hp sd) (fun r_ w_ => r_ = q_far N i w ∧ Wc γ b F N P hp w_) 0 0 := by
  refine MI.of (cc := cX11_far) (maxL := 3) (rt := .int) RX11 rfl (by decide +kernel) rfl (Nat.le_of_ble_eq_true rfl) ?_
  intro X C hγ hl hnm hret
  subst hγ
  have hNn := WFc.n hN
  show Wx X 0 0 (WX X.γ b F N M P hp sd) 0 [(0, .ref (b 0)), (1, .int (iN (i))), (2, .int (iN (w)))] []
  refine x_aload_n C 0 rfl rfl dX11_far_0 ?_
  refine x_get C in_X11_far_X11 0 rfl rfl 1 (by decide) (List.mem_of_getElem? (i := 1) rfl) rfl (v := .ref (b 27)) rfl dX11_far_1 ?_
  refine x_iload_n C 1 rfl rfl dX11_far_4 ?_
  refine x_V_I C (As := [.int (iN (i))]) (rest := []) 1 27 rfl rfl gX11_far_X1_has rfl (MI.fN b F N M P hp sd (fun r Z => r = (bz (0 ≤ i ∧ i ≤ Ct.n N - 1)) ∧ N = Z) (c_X1_has _ _ (adN b) N hN (i) (by omega)) (fun r w h => ⟨_, ⟨h.1, rfl⟩, h.2⟩)) rfl ok_X1_has rfl rfl rfl rfl dX11_far_5 (fun r w1 hp => ?_)
  obtain ⟨_, ⟨rfl, rfl⟩, rfl⟩ := hp
  show Wx X 0 0 (WX X.γ b F N M P hp sd) 8 [(0, .ref (b 0)), (1, .int (iN (i))), (2, .int (iN (w)))] [.int (iN (bz (0 ≤ i ∧ i ≤ Ct.n N - 1)))]
  refine x_ifeq_bz C 20 (by decide) dX11_far_8 (fun c_8 => ?_) (fun c_8 => ?_)
  · refine x_iconst (v := 0) C dX11_far_20 ?_
    exact hret _ _ _ _ dX11_far_21 rfl ⟨(by unfold q_far; rw [if_neg (show ¬ (q_one N i ∧ 0 ≤ w ∧ w ≤ 1) from (show ¬ ((0 ≤ i ∧ i ≤ Ct.n N - 1) ∧ 0 ≤ w ∧ w ≤ 1) by omega))]), ⟨(Ct.wa N), (Ct.wa P), _, _, rfl⟩⟩
  · refine x_iload_n C 2 rfl rfl dX11_far_11 ?_
    refine x_iconst (v := 0) C dX11_far_12 ?_
    refine x_iconst (v := 0) C dX11_far_13 ?_
    refine x_S_I C (As := [.int (iN (w)), .int (iN (0)), .int (iN (1))]) (rest := []) 3 gX11_far_X11_isWithin (c_X11_isWithin _ _ (WX X.γ b F N M P hp sd) (w) (0) (1) (by omega) (by omega) (by omega)) rfl ok_X11_isWithin rfl rfl rfl rfl dX11_far_14 (fun r w1 hp => ?_)
    obtain ⟨rfl, rfl⟩ := hp
    refine x_ifne_bz C 22 (by decide) dX11_far_17 (fun c_17 => ?_) (fun c_17 => ?_)
    · refine x_aload_n C 0 rfl rfl dX11_far_22 ?_
      refine x_get C in_X11_far_X11 0 rfl rfl 2 (by decide) (List.mem_of_getElem? (i := 2) rfl) rfl (v := .ref (b 38)) rfl dX11_far_23 ?_
      refine x_aload_n C 0 rfl rfl dX11_far_26 ?_
      refine x_get C in_X11_far_X11 0 rfl rfl 1 (by decide) (List.mem_of_getElem? (i := 1) rfl) rfl (v := .ref (b 27)) rfl dX11_far_27 ?_
      refine x_V_V C (As := [.ref (b 27)]) (rest := []) 1 38 rfl rfl gX11_far_X1_become rfl (MV.bMN b F N M P hp sd (fun Z => Z = Ct.set_wa N (Ct.wa M)) (c_X1_become _ _ (adM b) (adN b) M N) (fun w h => ⟨_, rfl, h⟩)) rfl ok_X1_become rfl rfl rfl rfl dX11_far_30 (fun w1 hp => ?_)
      obtain ⟨_, rfl, rfl⟩ := hp
      refine Wx.eqW (ws' := (WX X.γ b F N (Ct.set_wa N (Ct.wa M)) P hp sd)) rfl ?_
      refine x_aload_n C 0 rfl rfl dX11_far_33 ?_
      refine x_get C in_X11_far_X11 0 rfl rfl 2 (by decide) (List.mem_of_getElem? (i := 2) rfl) rfl (v := .ref (b 38)) rfl dX11_far_34 ?_
      refine x_iload_n C 1 rfl rfl dX11_far_37 ?_
      refine x_iload_n C 2 rfl rfl dX11_far_38 ?_
      refine x_if_ne C 46 (by decide) (by omega) dX11_far_39 (fun c_39 => ?_) (fun c_39 => ?_)
      · refine x_iconst (v := 0) C dX11_far_46 ?_
        refine x_V_I C (As := [.int (iN (i)), .int (iN (-1))]) (rest := []) 2 38 rfl rfl gX11_far_X1_walkFar rfl (MI.fM b F N (Ct.set_wa N (Ct.wa M)) P hp sd (fun r Z => r = (Ct.wk N i (-1) 15 i) ∧ (Ct.set_wa (Ct.set_po N (Ct.wk N i (-1) 15)) (Ct.wa M)) = Z) (c_X1_walkFar _ _ (adM b) (Ct.set_wa N (Ct.wa M)) hN (i) (-1) (by omega) (by omega)) (fun r w h => ⟨_, ⟨h.1, rfl⟩, h.2⟩)) rfl ok_X1_walkFar rfl rfl rfl rfl dX11_far_47 (fun r w1 hp => ?_)
        obtain ⟨_, ⟨rfl, rfl⟩, rfl⟩ := hp
        show Wx X 0 0 (WX X.γ b F N (Ct.set_wa (Ct.set_po N (Ct.wk N i (-1) 15)) (Ct.wa M)) P hp sd) 50 [(0, .ref (b 0)), (1, .int (iN (i))), (2, .int (iN (w)))] [.int (iN (Ct.wk N i (-1) 15 i))]
        show Wx X 0 0 (WX X.γ b F N (Ct.set_wa (Ct.set_po N (Ct.wk N i (-1) 15)) (Ct.wa M)) P hp sd) 50 [(0, .ref (b 0)), (1, .int (iN (i))), (2, .int (iN (w)))] [.int (iN (Ct.wk N i (-1) 15 i))]
        have b108 := Ct.wk_ok (i := i) (b := -1) hN 15 (i)
        exact hret _ _ _ _ dX11_far_50 rfl ⟨(by unfold q_far; rw [if_pos (show q_one N i ∧ 0 ≤ w ∧ w ≤ 1 from (show (0 ≤ i ∧ i ≤ Ct.n N - 1) ∧ 0 ≤ w ∧ w ≤ 1 by omega)), if_neg (show ¬ w = 0 by omega)]; exact (wk_rch (fun x hx => by omega) 15 _ (WFc.po hN)).symm), ⟨(Ct.wa N), (Ct.wa P), _, _, rfl⟩⟩
      · refine x_iconst (v := 0) C dX11_far_42 ?_
        refine x_goto C 47 (by decide) dX11_far_43 ?_
        refine x_V_I C (As := [.int (iN (i)), .int (iN (1))]) (rest := []) 2 38 rfl rfl gX11_far_X1_walkFar rfl (MI.fM b F N (Ct.set_wa N (Ct.wa M)) P hp sd (fun r Z => r = (Ct.wk N i 1 15 i) ∧ (Ct.set_wa (Ct.set_po N (Ct.wk N i 1 15)) (Ct.wa M)) = Z) (c_X1_walkFar _ _ (adM b) (Ct.set_wa N (Ct.wa M)) hN (i) (1) (by omega) (by omega)) (fun r w h => ⟨_, ⟨h.1, rfl⟩, h.2⟩)) rfl ok_X1_walkFar rfl rfl rfl rfl dX11_far_47 (fun r w1 hp => ?_)
        obtain ⟨_, ⟨rfl, rfl⟩, rfl⟩ := hp
        show Wx X 0 0 (WX X.γ b F N (Ct.set_wa (Ct.set_po N (Ct.wk N i 1 15)) (Ct.wa M)) P hp sd) 50 [(0, .ref (b 0)), (1, .int (iN (i))), (2, .int (iN (w)))] [.int (iN (Ct.wk N i 1 15 i))]
        show Wx X 0 0 (WX X.γ b F N (Ct.set_wa (Ct.set_po N (Ct.wk N i 1 15)) (Ct.wa M)) P hp sd) 50 [(0, .ref (b 0)), (1, .int (iN (i))), (2, .int (iN (w)))] [.int (iN (Ct.wk N i 1 15 i))]
        have b109 := Ct.wk_ok (i := i) (b := 1) hN 15 (i)
        exact hret _ _ _ _ dX11_far_50 rfl ⟨(by unfold q_far; rw [if_pos (show q_one N i ∧ 0 ≤ w ∧ w ≤ 1 from (show (0 ≤ i ∧ i ≤ Ct.n N - 1) ∧ 0 ≤ w ∧ w ≤ 1 by omega)), if_pos (show w = 0 by omega)]; exact (wk_rch (fun x hx => by omega) 15 _ (WFc.po hN)).symm), ⟨(Ct.wa N), (Ct.wa P), _, _, rfl⟩⟩
    · refine x_iconst (v := 0) C dX11_far_20 ?_
      exact hret _ _ _ _ dX11_far_21 rfl ⟨(by unfold q_far; rw [if_neg (show ¬ (q_one N i ∧ 0 ≤ w ∧ w ≤ 1) from (show ¬ ((0 ≤ i ∧ i ≤ Ct.n N - 1) ∧ 0 ≤ w ∧ w ≤ 1) by omega))]), ⟨(Ct.wa N), (Ct.wa P), _, _, rfl⟩⟩
end HXCap
