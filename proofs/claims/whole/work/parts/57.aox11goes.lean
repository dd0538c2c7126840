section HXCao
theorem in_X11_goes_X11 : ∀ w ∈ u_ws RX11 TX11 6, w ∈ wsX11_goes := by decide +kernel
theorem ok_X11_goes : okY yX11_goes 2 := by decide +kernel
def rmX11_goes : Room := { frames := 5, cells := 0, slots := 0, locals := 113 }
set_option maxRecDepth 100000 in
set_option maxHeartbeats 400000 in
theorem c_X11_goes (l : Launch) (γ : GX) (b : Nat → Nat) (F : Nat → Sh) (N M P : Ct) (hp sd : Int) (hN : WFc N) (hF : ∀ t : Nat, t < 8 → WFs (F t)) (i : Int) (c : Int) (h0_ : -2147483648 ≤ i ∧ i < 2147483648) (h1_ : -2147483648 ≤ c ∧ c < 2147483648) : MI l γ yX11_goes wsX11_goes rmX11_goes [.ref (b 0), .int (iN (i)), .int (iN (c))] (WX γ b F N M P hp sd) (fun r_ w_ => r_ = q_goes N i c ∧ Wc γ b F N P hp w_) 0 0 := by
  refine MI.of (cc := cX11_goes) (maxL := 3) (rt := .int) RX11 rfl (by decide +kernel) rfl (Nat.le_of_ble_eq_true rfl) ?_
  intro X C hγ hl hnm hret
  subst hγ
  have hNn := WFc.n hN
  show Wx X 0 0 (WX X.γ b F N M P hp sd) 0 [(0, .ref (b 0)), (1, .int (iN (i))), (2, .int (iN (c)))] []
  refine x_aload_n C 0 rfl rfl dX11_goes_0 ?_
  refine x_get C in_X11_goes_X11 0 rfl rfl 1 (by decide) (List.mem_of_getElem? (i := 1) rfl) rfl (v := .ref (b 27)) rfl dX11_goes_1 ?_
  refine x_iload_n C 1 rfl rfl dX11_goes_4 ?_
  refine x_V_I C (As := [.int (iN (i))]) (rest := []) 1 27 rfl rfl gX11_goes_X1_has rfl (MI.fN b F N M P hp sd (fun r Z => r = (bz (0 ≤ i ∧ i ≤ Ct.n N - 1)) ∧ N = Z) (c_X1_has _ _ (adN b) N hN (i) (by omega)) (fun r w h => ⟨_, ⟨h.1, rfl⟩, h.2⟩)) rfl ok_X1_has rfl rfl rfl rfl dX11_goes_5 (fun r w1 hp => ?_)
  obtain ⟨_, ⟨rfl, rfl⟩, rfl⟩ := hp
  show Wx X 0 0 (WX X.γ b F N M P hp sd) 8 [(0, .ref (b 0)), (1, .int (iN (i))), (2, .int (iN (c)))] [.int (iN (bz (0 ≤ i ∧ i ≤ Ct.n N - 1)))]
  refine x_ifeq_bz C 18 (by decide) dX11_goes_8 (fun c_8 => ?_) (fun c_8 => ?_)
  · refine x_iconst (v := 0) C dX11_goes_18 ?_
    exact hret _ _ _ _ dX11_goes_19 rfl ⟨(by unfold q_goes; rw [if_neg (show ¬ (q_one N i ∧ q_cell c) from (show ¬ ((0 ≤ i ∧ i ≤ Ct.n N - 1) ∧ 0 ≤ c ∧ c ≤ 14) by omega))]), ⟨(Ct.wa N), (Ct.wa P), _, _, rfl⟩⟩
  · refine x_iload_n C 2 rfl rfl dX11_goes_11 ?_
    refine x_S_I C (As := [.int (iN (c))]) (rest := []) 1 gX11_goes_X11_isCell (c_X11_isCell _ _ (WX X.γ b F N M P hp sd) (c) (by omega)) rfl ok_X11_isCell rfl rfl rfl rfl dX11_goes_12 (fun r w1 hp => ?_)
    obtain ⟨rfl, rfl⟩ := hp
    refine x_ifne_bz C 20 (by decide) dX11_goes_15 (fun c_15 => ?_) (fun c_15 => ?_)
    · refine x_aload_n C 0 rfl rfl dX11_goes_20 ?_
      refine x_iload_n C 1 rfl rfl dX11_goes_21 ?_
      refine x_iconst (v := 0) C dX11_goes_22 ?_
      refine x_iload_n C 2 rfl rfl dX11_goes_23 ?_
      refine x_V_I C (As := [.int (iN (i)), .int (iN (0)), .int (iN (c))]) (rest := []) 3 0 rfl rfl gX11_goes_X11_getsThere rfl (c_X11_getsThere _ _ b F N M P hp sd hN hF (i) (0) (c) (by omega) (by omega) (by omega)) rfl ok_X11_getsThere rfl rfl rfl rfl dX11_goes_24 (fun r w1 hp => ?_)
      obtain ⟨rfl, Mb107, rfl⟩ := hp
      show Wx X 0 0 (WX X.γ b F N Mb107 P hp sd) 27 [(0, .ref (b 0)), (1, .int (iN (i))), (2, .int (iN (c)))] [.int (iN (Ct.wt N i 0 c (if c < Ct.po N i then -1 else 1) 15 (Ct.po N)))]
      have wb107 : Ct.wt N i 0 c (if c < Ct.po N i then -1 else 1) 15 (Ct.po N) = 0 ∨ Ct.wt N i 0 c (if c < Ct.po N i then -1 else 1) 15 (Ct.po N) = 1 := wto_01 _ _ _ _ _ _ _ _ _ _ _
      refine x_if_eq C 34 (by decide) (by omega) dX11_goes_27 (fun c_27 => ?_) (fun c_27 => ?_)
      · refine x_iconst (v := 0) C dX11_goes_34 ?_
        exact hret _ _ _ _ dX11_goes_35 rfl ⟨(by unfold q_goes; rw [if_pos (show q_one N i ∧ q_cell c from (show (0 ≤ i ∧ i ≤ Ct.n N - 1) ∧ 0 ≤ c ∧ c ≤ 14 by omega)), if_neg (fun z => absurd ((gets_iff hN (by omega)).mpr z) (by omega))]), ⟨(Ct.wa N), (Ct.wa P), _, _, rfl⟩⟩
      · refine x_iconst (v := 0) C dX11_goes_30 ?_
        refine x_goto C 35 (by decide) dX11_goes_31 ?_
        exact hret _ _ _ _ dX11_goes_35 rfl ⟨(by unfold q_goes; rw [if_pos (show q_one N i ∧ q_cell c from (show (0 ≤ i ∧ i ≤ Ct.n N - 1) ∧ 0 ≤ c ∧ c ≤ 14 by omega)), if_pos ((gets_iff hN (by omega)).mp (by omega))]), ⟨(Ct.wa N), (Ct.wa P), _, _, rfl⟩⟩
    · refine x_iconst (v := 0) C dX11_goes_18 ?_
      exact hret _ _ _ _ dX11_goes_19 rfl ⟨(by unfold q_goes; rw [if_neg (show ¬ (q_one N i ∧ q_cell c) from (show ¬ ((0 ≤ i ∧ i ≤ Ct.n N - 1) ∧ 0 ≤ c ∧ c ≤ 14) by omega))]), ⟨(Ct.wa N), (Ct.wa P), _, _, rfl⟩⟩
end HXCao
