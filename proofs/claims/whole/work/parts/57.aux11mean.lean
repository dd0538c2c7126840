section HXCau
theorem in_X11_mean_X11 : ∀ w ∈ u_ws RX11 TX11 6, w ∈ wsX11_mean := by decide +kernel
theorem ok_X11_mean : okY yX11_mean 1 := by decide +kernel
def rmX11_mean : Room := { frames := 2, cells := 0, slots := 0, locals := 86 }
set_option maxRecDepth 100000 in
set_option maxHeartbeats 400000 in
theorem c_X11_mean (l : Launch) (γ : GX) (b : Nat → Nat) (F : Nat → Sh) (N M P : Ct) (hp sd : Int) (hN : WFc N) (hF : ∀ t : Nat, t < 8 → WFs (F t)) (w : Int) (h0_ : -2147483648 ≤ w ∧ w < 2147483648) : MJ l γ yX11_mean wsX11_mean rmX11_mean [.ref (b 0), .int (iN (w))] (WX γ b F N M P hp sd) (fun r_ w_ => r_ = q_mean N w ∧ Wc γ b F N P hp w_) 0 0 := by
  refine MJ.of (cc := cX11_mean) (maxL := 2) RX11 rfl (by decide +kernel) rfl (Nat.le_of_ble_eq_true rfl) ?_
  intro X C hγ hl hnm hret
  subst hγ
  have hNn := WFc.n hN
  show Wx X 0 0 (WX X.γ b F N M P hp sd) 0 [(0, .ref (b 0)), (1, .int (iN (w)))] []
  refine x_iload_n C 1 rfl rfl dX11_mean_0 ?_
  refine x_iconst (v := 0) C dX11_mean_1 ?_
  refine x_iconst (v := 0) C dX11_mean_2 ?_
  refine x_S_I C (As := [.int (iN (w)), .int (iN (0)), .int (iN (1))]) (rest := []) 3 gX11_mean_X11_isWithin (c_X11_isWithin _ _ (WX X.γ b F N M P hp sd) (w) (0) (1) (by omega) (by omega) (by omega)) rfl ok_X11_isWithin rfl rfl rfl rfl dX11_mean_3 (fun r w1 hp => ?_)
  obtain ⟨rfl, rfl⟩ := hp
  refine x_ifne_bz C 13 (by decide) dX11_mean_6 (fun c_6 => ?_) (fun c_6 => ?_)
  · refine x_aload_n C 0 rfl rfl dX11_mean_13 ?_
    refine x_get C in_X11_mean_X11 0 rfl rfl 1 (by decide) (List.mem_of_getElem? (i := 2) rfl) rfl (v := .ref (b 27)) rfl dX11_mean_14 ?_
    refine x_V_I C (As := []) (rest := []) 0 27 rfl rfl gX11_mean_X1_allGround rfl (MI.fN b F N M P hp sd (fun r Z => r = (sumz (Ct.g N) 15) ∧ N = Z) (c_X1_allGround _ _ (adN b) N hN) (fun r w h => ⟨_, ⟨h.1, rfl⟩, h.2⟩)) rfl ok_X1_allGround rfl rfl rfl rfl dX11_mean_17 (fun r w1 hp => ?_)
    obtain ⟨_, ⟨rfl, rfl⟩, rfl⟩ := hp
    show Wx X 0 0 (WX X.γ b F N M P hp sd) 20 [(0, .ref (b 0)), (1, .int (iN (w)))] [.int (iN (sumz (Ct.g N) 15))]
    show Wx X 0 0 (WX X.γ b F N M P hp sd) 20 [(0, .ref (b 0)), (1, .int (iN (w)))] [.int (iN (sumz (Ct.g N) 15))]
    have b113 := sumz_b (m := 20) (f := Ct.g N) (WFc.g hN) 15
    refine x_i2l C (by omega) dX11_mean_20 ?_
    refine x_ldc2 C (15) (List.mem_of_getElem? (i := 3) rfl) (by decide) dX11_mean_21 ?_
    refine x_iload_n C 1 rfl rfl dX11_mean_24 ?_
    refine x_S_J C (As := [.long (jN (sumz (Ct.g N) 15)), .long (jN ((15 : Int))), .int (iN (w))]) (rest := []) 3 gX11_mean_X11_inLeastTerms (c_X11_inLeastTerms _ _ (WX X.γ b F N M P hp sd) (sumz (Ct.g N) 15) ((15 : Int)) (w) (by omega) (by omega) (by omega)) rfl ok_X11_inLeastTerms rfl rfl rfl rfl dX11_mean_25 (fun r w1 hp => ?_)
    obtain ⟨rfl, rfl⟩ := hp
    show Wx X 0 0 (WX X.γ b F N M P hp sd) 28 [(0, .ref (b 0)), (1, .int (iN (w)))] [.long (jN (q_part (sumz (Ct.g N) 15) ((15 : Int)) w))]
    exact hret _ _ _ _ dX11_mean_28 ⟨(by unfold q_mean; rw [if_pos (show 0 ≤ w ∧ w ≤ 1 by omega)]), ⟨(Ct.wa N), (Ct.wa P), _, _, rfl⟩⟩
  · refine x_ldc2 C (1000000001) (List.mem_of_getElem? (i := 1) rfl) (by decide) dX11_mean_9 ?_
    exact hret _ _ _ _ dX11_mean_12 ⟨(by unfold q_mean; rw [if_neg (show ¬ (0 ≤ w ∧ w ≤ 1) by omega)]), ⟨(Ct.wa N), (Ct.wa P), _, _, rfl⟩⟩
end HXCau
