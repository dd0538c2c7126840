section HXCaj
theorem in_X11_steepest_X11 : ∀ w ∈ u_ws RX11 TX11 6, w ∈ wsX11_steepest := by decide +kernel
theorem ok_X11_steepest : okY yX11_steepest 1 := by decide +kernel
def rmX11_steepest : Room := { frames := 4, cells := 0, slots := 0, locals := 105 }
set_option maxRecDepth 100000 in
set_option maxHeartbeats 400000 in
theorem c_X11_steepest (l : Launch) (γ : GX) (b : Nat → Nat) (F : Nat → Sh) (N M P : Ct) (hp sd : Int) (hN : WFc N) (hF : ∀ t : Nat, t < 8 → WFs (F t)) (w : Int) (h0_ : -2147483648 ≤ w ∧ w < 2147483648) : MI l γ yX11_steepest wsX11_steepest rmX11_steepest [.ref (b 0), .int (iN (w))] (WX γ b F N M P hp sd) (fun r_ w_ => r_ = q_steepest N w ∧ Wc γ b F N P hp w_) 0 0 := by
  refine MI.of (cc := cX11_steepest) (maxL := 2) (rt := .int) RX11 rfl (by decide +kernel) rfl (Nat.le_of_ble_eq_true rfl) ?_
  intro X C hγ hl hnm hret
  subst hγ
  have hNn := WFc.n hN
  show Wx X 0 0 (WX X.γ b F N M P hp sd) 0 [(0, .ref (b 0)), (1, .int (iN (w)))] []
  refine x_iload_n C 1 rfl rfl dX11_steepest_0 ?_
  rcases (show w = 0 ∨ w = 1 ∨ w = 2 ∨ w = 3 ∨ (w < 0 ∨ 3 < w) by omega) with s_1 | s_1 | s_1 | s_1 | s_1
  · refine x_tabIn C 32 (31) (by omega) (by omega) (by omega) (by rw [s_1]; rfl) (by decide) dX11_steepest_1 ?_
    refine x_aload_n C 0 rfl rfl dX11_steepest_32 ?_
    refine x_get C in_X11_steepest_X11 0 rfl rfl 1 (by decide) (List.mem_of_getElem? (i := 1) rfl) rfl (v := .ref (b 27)) rfl dX11_steepest_33 ?_
    refine x_V_I C (As := []) (rest := []) 0 27 rfl rfl gX11_steepest_X1_steepestCell rfl (MI.fN b F N M P hp sd (fun r Z => r = (stpc (Ct.s N) 13) ∧ N = Z) (c_X1_steepestCell _ _ (adN b) N hN) (fun r w h => ⟨_, ⟨h.1, rfl⟩, h.2⟩)) rfl ok_X1_steepestCell rfl rfl rfl rfl dX11_steepest_36 (fun r w1 hp => ?_)
    obtain ⟨_, ⟨rfl, rfl⟩, rfl⟩ := hp
    show Wx X 0 0 (WX X.γ b F N M P hp sd) 39 [(0, .ref (b 0)), (1, .int (iN (w)))] [.int (iN (stpc (Ct.s N) 13))]
    show Wx X 0 0 (WX X.γ b F N M P hp sd) 39 [(0, .ref (b 0)), (1, .int (iN (w)))] [.int (iN (stpc (Ct.s N) 13))]
    have b95 := stpc_b (Ct.s N) 13
    exact hret _ _ _ _ dX11_steepest_39 rfl ⟨(by unfold q_steepest; rw [if_pos (show 0 ≤ w ∧ w ≤ 3 by omega), if_pos (show w = 0 by omega)]), ⟨(Ct.wa N), (Ct.wa P), _, _, rfl⟩⟩
  · refine x_tabIn C 40 (39) (by omega) (by omega) (by omega) (by rw [s_1]; rfl) (by decide) dX11_steepest_1 ?_
    refine x_aload_n C 0 rfl rfl dX11_steepest_40 ?_
    refine x_get C in_X11_steepest_X11 0 rfl rfl 1 (by decide) (List.mem_of_getElem? (i := 1) rfl) rfl (v := .ref (b 27)) rfl dX11_steepest_41 ?_
    refine x_aload_n C 0 rfl rfl dX11_steepest_44 ?_
    refine x_get C in_X11_steepest_X11 0 rfl rfl 1 (by decide) (List.mem_of_getElem? (i := 1) rfl) rfl (v := .ref (b 27)) rfl dX11_steepest_45 ?_
    refine x_V_I C (As := []) (rest := [.ref (b 27)]) 0 27 rfl rfl gX11_steepest_X1_steepestCell rfl (MI.fN b F N M P hp sd (fun r Z => r = (stpc (Ct.s N) 13) ∧ N = Z) (c_X1_steepestCell _ _ (adN b) N hN) (fun r w h => ⟨_, ⟨h.1, rfl⟩, h.2⟩)) rfl ok_X1_steepestCell rfl rfl rfl rfl dX11_steepest_48 (fun r w1 hp => ?_)
    obtain ⟨_, ⟨rfl, rfl⟩, rfl⟩ := hp
    show Wx X 0 0 (WX X.γ b F N M P hp sd) 51 [(0, .ref (b 0)), (1, .int (iN (w)))] [.int (iN (stpc (Ct.s N) 13)), .ref (b 27)]
    show Wx X 0 0 (WX X.γ b F N M P hp sd) 51 [(0, .ref (b 0)), (1, .int (iN (w)))] [.int (iN (stpc (Ct.s N) 13)), .ref (b 27)]
    have b96 := stpc_b (Ct.s N) 13
    refine x_V_I C (As := [.int (iN (stpc (Ct.s N) 13))]) (rest := []) 1 27 rfl rfl gX11_steepest_X1_steepness rfl (MI.fN b F N M P hp sd (fun r Z => r = (Ct.s N (stpc (Ct.s N) 13)) ∧ N = Z) (c_X1_steepness _ _ (adN b) N hN (stpc (Ct.s N) 13) (by omega)) (fun r w h => ⟨_, ⟨h.1, rfl⟩, h.2⟩)) rfl ok_X1_steepness rfl rfl rfl rfl dX11_steepest_51 (fun r w1 hp => ?_)
    obtain ⟨_, ⟨rfl, rfl⟩, rfl⟩ := hp
    show Wx X 0 0 (WX X.γ b F N M P hp sd) 54 [(0, .ref (b 0)), (1, .int (iN (w)))] [.int (iN (Ct.s N (stpc (Ct.s N) 13)))]
    show Wx X 0 0 (WX X.γ b F N M P hp sd) 54 [(0, .ref (b 0)), (1, .int (iN (w)))] [.int (iN (Ct.s N (stpc (Ct.s N) 13)))]
    have b97 := WFc.s hN (stpc (Ct.s N) 13)
    exact hret _ _ _ _ dX11_steepest_54 rfl ⟨(by unfold q_steepest; rw [if_pos (show 0 ≤ w ∧ w ≤ 3 by omega), if_neg (show ¬ w = 0 by omega), if_pos (show w = 1 by omega)]), ⟨(Ct.wa N), (Ct.wa P), _, _, rfl⟩⟩
  · refine x_tabIn C 55 (54) (by omega) (by omega) (by omega) (by rw [s_1]; rfl) (by decide) dX11_steepest_1 ?_
    refine x_aload_n C 0 rfl rfl dX11_steepest_55 ?_
    refine x_get C in_X11_steepest_X11 0 rfl rfl 1 (by decide) (List.mem_of_getElem? (i := 1) rfl) rfl (v := .ref (b 27)) rfl dX11_steepest_56 ?_
    refine x_V_I C (As := []) (rest := []) 0 27 rfl rfl gX11_steepest_X1_flattestCell rfl (MI.fN b F N M P hp sd (fun r Z => r = (fltc (Ct.s N) 13) ∧ N = Z) (c_X1_flattestCell _ _ (adN b) N hN) (fun r w h => ⟨_, ⟨h.1, rfl⟩, h.2⟩)) rfl ok_X1_flattestCell rfl rfl rfl rfl dX11_steepest_59 (fun r w1 hp => ?_)
    obtain ⟨_, ⟨rfl, rfl⟩, rfl⟩ := hp
    show Wx X 0 0 (WX X.γ b F N M P hp sd) 62 [(0, .ref (b 0)), (1, .int (iN (w)))] [.int (iN (fltc (Ct.s N) 13))]
    show Wx X 0 0 (WX X.γ b F N M P hp sd) 62 [(0, .ref (b 0)), (1, .int (iN (w)))] [.int (iN (fltc (Ct.s N) 13))]
    have b98 := fltc_b (Ct.s N) 13
    exact hret _ _ _ _ dX11_steepest_62 rfl ⟨(by unfold q_steepest; rw [if_pos (show 0 ≤ w ∧ w ≤ 3 by omega), if_neg (show ¬ w = 0 by omega), if_neg (show ¬ w = 1 by omega), if_pos (show w = 2 by omega)]), ⟨(Ct.wa N), (Ct.wa P), _, _, rfl⟩⟩
  · refine x_tabIn C 63 (62) (by omega) (by omega) (by omega) (by rw [s_1]; rfl) (by decide) dX11_steepest_1 ?_
    refine x_aload_n C 0 rfl rfl dX11_steepest_63 ?_
    refine x_get C in_X11_steepest_X11 0 rfl rfl 1 (by decide) (List.mem_of_getElem? (i := 1) rfl) rfl (v := .ref (b 27)) rfl dX11_steepest_64 ?_
    refine x_aload_n C 0 rfl rfl dX11_steepest_67 ?_
    refine x_get C in_X11_steepest_X11 0 rfl rfl 1 (by decide) (List.mem_of_getElem? (i := 1) rfl) rfl (v := .ref (b 27)) rfl dX11_steepest_68 ?_
    refine x_V_I C (As := []) (rest := [.ref (b 27)]) 0 27 rfl rfl gX11_steepest_X1_flattestCell rfl (MI.fN b F N M P hp sd (fun r Z => r = (fltc (Ct.s N) 13) ∧ N = Z) (c_X1_flattestCell _ _ (adN b) N hN) (fun r w h => ⟨_, ⟨h.1, rfl⟩, h.2⟩)) rfl ok_X1_flattestCell rfl rfl rfl rfl dX11_steepest_71 (fun r w1 hp => ?_)
    obtain ⟨_, ⟨rfl, rfl⟩, rfl⟩ := hp
    show Wx X 0 0 (WX X.γ b F N M P hp sd) 74 [(0, .ref (b 0)), (1, .int (iN (w)))] [.int (iN (fltc (Ct.s N) 13)), .ref (b 27)]
    show Wx X 0 0 (WX X.γ b F N M P hp sd) 74 [(0, .ref (b 0)), (1, .int (iN (w)))] [.int (iN (fltc (Ct.s N) 13)), .ref (b 27)]
    have b99 := fltc_b (Ct.s N) 13
    refine x_V_I C (As := [.int (iN (fltc (Ct.s N) 13))]) (rest := []) 1 27 rfl rfl gX11_steepest_X1_steepness rfl (MI.fN b F N M P hp sd (fun r Z => r = (Ct.s N (fltc (Ct.s N) 13)) ∧ N = Z) (c_X1_steepness _ _ (adN b) N hN (fltc (Ct.s N) 13) (by omega)) (fun r w h => ⟨_, ⟨h.1, rfl⟩, h.2⟩)) rfl ok_X1_steepness rfl rfl rfl rfl dX11_steepest_74 (fun r w1 hp => ?_)
    obtain ⟨_, ⟨rfl, rfl⟩, rfl⟩ := hp
    show Wx X 0 0 (WX X.γ b F N M P hp sd) 77 [(0, .ref (b 0)), (1, .int (iN (w)))] [.int (iN (Ct.s N (fltc (Ct.s N) 13)))]
    show Wx X 0 0 (WX X.γ b F N M P hp sd) 77 [(0, .ref (b 0)), (1, .int (iN (w)))] [.int (iN (Ct.s N (fltc (Ct.s N) 13)))]
    have b100 := WFc.s hN (fltc (Ct.s N) 13)
    exact hret _ _ _ _ dX11_steepest_77 rfl ⟨(by unfold q_steepest; rw [if_pos (show 0 ≤ w ∧ w ≤ 3 by omega), if_neg (show ¬ w = 0 by omega), if_neg (show ¬ w = 1 by omega), if_neg (show ¬ w = 2 by omega)]), ⟨(Ct.wa N), (Ct.wa P), _, _, rfl⟩⟩
  · refine x_tabOut C 78 (by omega) s_1 (by decide) dX11_steepest_1 ?_
    refine x_iconst (v := 0) C dX11_steepest_78 ?_
    exact hret _ _ _ _ dX11_steepest_79 rfl ⟨(by unfold q_steepest; rw [if_neg (by omega)]), ⟨(Ct.wa N), (Ct.wa P), _, _, rfl⟩⟩
end HXCaj
