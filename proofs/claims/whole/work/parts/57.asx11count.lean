section HXCas
theorem in_X11_count_X1 : ∀ w ∈ u_ws RX1 TX1 13, w ∈ wsX11_count := by decide +kernel
theorem in_X11_count_X11 : ∀ w ∈ u_ws RX11 TX11 6, w ∈ wsX11_count := by decide +kernel
theorem ok_X11_count : okY yX11_count 1 := by decide +kernel
def rmX11_count : Room := { frames := 3, cells := 0, slots := 0, locals := 105 }
set_option maxRecDepth 100000 in
set_option maxHeartbeats 400000 in
theorem c_X11_count (l : Launch) (γ : GX) (b : Nat → Nat) (F : Nat → Sh) (N M P : Ct) (hp sd : Int) (hN : WFc N) (hF : ∀ t : Nat, t < 8 → WFs (F t)) (w : Int) (h0_ : -2147483648 ≤ w ∧ w < 2147483648) : MI l γ yX11_count wsX11_count rmX11_count [.ref (b 0), .int (iN (w))] (WX γ b F N M P hp sd) (fun r_ w_ => r_ = q_count N w ∧ Wc γ b F N P hp w_) 0 0 := by
  refine MI.of (cc := cX11_count) (maxL := 2) (rt := .int) RX11 rfl (by decide +kernel) rfl (Nat.le_of_ble_eq_true rfl) ?_
  intro X C hγ hl hnm hret
  subst hγ
  have hNn := WFc.n hN
  show Wx X 0 0 (WX X.γ b F N M P hp sd) 0 [(0, .ref (b 0)), (1, .int (iN (w)))] []
  refine x_iload_n C 1 rfl rfl dX11_count_0 ?_
  rcases (show w = 0 ∨ w = 1 ∨ w = 2 ∨ w = 3 ∨ w = 4 ∨ w = 5 ∨ (w < 0 ∨ 5 < w) by omega) with s_1 | s_1 | s_1 | s_1 | s_1 | s_1 | s_1
  · refine x_tabIn C 40 (39) (by omega) (by omega) (by omega) (by rw [s_1]; rfl) (by decide) dX11_count_1 ?_
    refine x_aload_n C 0 rfl rfl dX11_count_40 ?_
    refine x_get C in_X11_count_X11 0 rfl rfl 1 (by decide) (List.mem_of_getElem? (i := 1) rfl) rfl (v := .ref (b 27)) rfl dX11_count_41 ?_
    refine x_get C in_X11_count_X1 27 rfl rfl 2 (by decide) (List.mem_of_getElem? (i := 2) rfl) rfl (v := .int (iN (Ct.n N))) rfl dX11_count_44 ?_
    exact hret _ _ _ _ dX11_count_47 rfl ⟨(by unfold q_count; rw [if_pos (show w = 0 by omega)]), ⟨(Ct.wa N), (Ct.wa P), _, _, rfl⟩⟩
  · refine x_tabIn C 48 (47) (by omega) (by omega) (by omega) (by rw [s_1]; rfl) (by decide) dX11_count_1 ?_
    refine x_aload_n C 0 rfl rfl dX11_count_48 ?_
    refine x_get C in_X11_count_X11 0 rfl rfl 1 (by decide) (List.mem_of_getElem? (i := 1) rfl) rfl (v := .ref (b 27)) rfl dX11_count_49 ?_
    refine x_get C in_X11_count_X1 27 rfl rfl 3 (by decide) (List.mem_of_getElem? (i := 3) rfl) rfl (v := .int (iN (Ct.dy N))) rfl dX11_count_52 ?_
    exact hret _ _ _ _ dX11_count_55 rfl ⟨(by unfold q_count; rw [if_neg (show ¬ w = 0 by omega), if_pos (show w = 1 by omega)]), ⟨(Ct.wa N), (Ct.wa P), _, _, rfl⟩⟩
  · refine x_tabIn C 56 (55) (by omega) (by omega) (by omega) (by rw [s_1]; rfl) (by decide) dX11_count_1 ?_
    refine x_aload_n C 0 rfl rfl dX11_count_56 ?_
    refine x_get C in_X11_count_X11 0 rfl rfl 1 (by decide) (List.mem_of_getElem? (i := 1) rfl) rfl (v := .ref (b 27)) rfl dX11_count_57 ?_
    refine x_V_I C (As := []) (rest := []) 0 27 rfl rfl gX11_count_X1_allHeight rfl (MI.fN b F N M P hp sd (fun r Z => r = (sumz (Ct.h N) 15) ∧ N = Z) (c_X1_allHeight _ _ (adN b) N hN) (fun r w h => ⟨_, ⟨h.1, rfl⟩, h.2⟩)) rfl ok_X1_allHeight rfl rfl rfl rfl dX11_count_60 (fun r w1 hp => ?_)
    obtain ⟨_, ⟨rfl, rfl⟩, rfl⟩ := hp
    show Wx X 0 0 (WX X.γ b F N M P hp sd) 63 [(0, .ref (b 0)), (1, .int (iN (w)))] [.int (iN (sumz (Ct.h N) 15))]
    show Wx X 0 0 (WX X.γ b F N M P hp sd) 63 [(0, .ref (b 0)), (1, .int (iN (w)))] [.int (iN (sumz (Ct.h N) 15))]
    have b110 := sumz_b (m := 20) (f := Ct.h N) (WFc.h hN) 15
    exact hret _ _ _ _ dX11_count_63 rfl ⟨(by unfold q_count; rw [if_neg (show ¬ w = 0 by omega), if_neg (show ¬ w = 1 by omega), if_pos (show w = 2 by omega)]), ⟨(Ct.wa N), (Ct.wa P), _, _, rfl⟩⟩
  · refine x_tabIn C 64 (63) (by omega) (by omega) (by omega) (by rw [s_1]; rfl) (by decide) dX11_count_1 ?_
    refine x_aload_n C 0 rfl rfl dX11_count_64 ?_
    refine x_get C in_X11_count_X11 0 rfl rfl 1 (by decide) (List.mem_of_getElem? (i := 1) rfl) rfl (v := .ref (b 27)) rfl dX11_count_65 ?_
    refine x_V_I C (As := []) (rest := []) 0 27 rfl rfl gX11_count_X1_allGround rfl (MI.fN b F N M P hp sd (fun r Z => r = (sumz (Ct.g N) 15) ∧ N = Z) (c_X1_allGround _ _ (adN b) N hN) (fun r w h => ⟨_, ⟨h.1, rfl⟩, h.2⟩)) rfl ok_X1_allGround rfl rfl rfl rfl dX11_count_68 (fun r w1 hp => ?_)
    obtain ⟨_, ⟨rfl, rfl⟩, rfl⟩ := hp
    show Wx X 0 0 (WX X.γ b F N M P hp sd) 71 [(0, .ref (b 0)), (1, .int (iN (w)))] [.int (iN (sumz (Ct.g N) 15))]
    show Wx X 0 0 (WX X.γ b F N M P hp sd) 71 [(0, .ref (b 0)), (1, .int (iN (w)))] [.int (iN (sumz (Ct.g N) 15))]
    have b111 := sumz_b (m := 20) (f := Ct.g N) (WFc.g hN) 15
    exact hret _ _ _ _ dX11_count_71 rfl ⟨(by unfold q_count; rw [if_neg (show ¬ w = 0 by omega), if_neg (show ¬ w = 1 by omega), if_neg (show ¬ w = 2 by omega), if_pos (show w = 3 by omega)]), ⟨(Ct.wa N), (Ct.wa P), _, _, rfl⟩⟩
  · refine x_tabIn C 72 (71) (by omega) (by omega) (by omega) (by rw [s_1]; rfl) (by decide) dX11_count_1 ?_
    refine x_aload_n C 0 rfl rfl dX11_count_72 ?_
    refine x_get C in_X11_count_X11 0 rfl rfl 1 (by decide) (List.mem_of_getElem? (i := 1) rfl) rfl (v := .ref (b 27)) rfl dX11_count_73 ?_
    refine x_V_I C (As := []) (rest := []) 0 27 rfl rfl gX11_count_X1_whoHasAWay rfl (MI.fN b F N M P hp sd (fun r Z => r = (bitz (fun i => Ct.wy N i ≠ 0) (Ct.n N).toNat) ∧ N = Z) (c_X1_whoHasAWay _ _ (adN b) N hN) (fun r w h => ⟨_, ⟨h.1, rfl⟩, h.2⟩)) rfl ok_X1_whoHasAWay rfl rfl rfl rfl dX11_count_76 (fun r w1 hp => ?_)
    obtain ⟨_, ⟨rfl, rfl⟩, rfl⟩ := hp
    show Wx X 0 0 (WX X.γ b F N M P hp sd) 79 [(0, .ref (b 0)), (1, .int (iN (w)))] [.int (iN (bitz (fun i => Ct.wy N i ≠ 0) (Ct.n N).toNat))]
    show Wx X 0 0 (WX X.γ b F N M P hp sd) 79 [(0, .ref (b 0)), (1, .int (iN (w)))] [.int (iN (bitz (fun i => Ct.wy N i ≠ 0) (Ct.n N).toNat))]
    exact hret _ _ _ _ dX11_count_79 rfl ⟨(by unfold q_count; rw [if_neg (show ¬ w = 0 by omega), if_neg (show ¬ w = 1 by omega), if_neg (show ¬ w = 2 by omega), if_neg (show ¬ w = 3 by omega), if_pos (show w = 4 by omega)]), ⟨(Ct.wa N), (Ct.wa P), _, _, rfl⟩⟩
  · refine x_tabIn C 80 (79) (by omega) (by omega) (by omega) (by rw [s_1]; rfl) (by decide) dX11_count_1 ?_
    refine x_aload_n C 0 rfl rfl dX11_count_80 ?_
    refine x_get C in_X11_count_X11 0 rfl rfl 1 (by decide) (List.mem_of_getElem? (i := 1) rfl) rfl (v := .ref (b 27)) rfl dX11_count_81 ?_
    refine x_V_I C (As := []) (rest := []) 0 27 rfl rfl gX11_count_X1_wetCells rfl (MI.fN b F N M P hp sd (fun r Z => r = (bitz (fun c => 0 < Ct.w N c) 15) ∧ (Ct.set_wa N (Ct.w N)) = Z) (c_X1_wetCells _ _ (adN b) N hN) (fun r w h => ⟨_, ⟨h.1, rfl⟩, h.2⟩)) rfl ok_X1_wetCells rfl rfl rfl rfl dX11_count_84 (fun r w1 hp => ?_)
    obtain ⟨_, ⟨rfl, rfl⟩, rfl⟩ := hp
    show Wx X 0 0 (WX X.γ b F (Ct.set_wa N (Ct.w N)) M P hp sd) 87 [(0, .ref (b 0)), (1, .int (iN (w)))] [.int (iN (bitz (fun c => 0 < Ct.w N c) 15))]
    show Wx X 0 0 (WX X.γ b F (Ct.set_wa N (Ct.w N)) M P hp sd) 87 [(0, .ref (b 0)), (1, .int (iN (w)))] [.int (iN (bitz (fun c => 0 < Ct.w N c) 15))]
    have b112 := bitz_b (fun c => 0 < Ct.w N c) 15
    exact hret _ _ _ _ dX11_count_87 rfl ⟨(by unfold q_count; rw [if_neg (show ¬ w = 0 by omega), if_neg (show ¬ w = 1 by omega), if_neg (show ¬ w = 2 by omega), if_neg (show ¬ w = 3 by omega), if_neg (show ¬ w = 4 by omega), if_pos (show w = 5 by omega)]), ⟨(Ct.w N), (Ct.wa P), _, _, rfl⟩⟩
  · refine x_tabOut C 88 (by omega) s_1 (by decide) dX11_count_1 ?_
    refine x_iconst (v := 0) C dX11_count_88 ?_
    exact hret _ _ _ _ dX11_count_89 rfl ⟨(by unfold q_count; rw [if_neg (show ¬ w = 0 by omega), if_neg (show ¬ w = 1 by omega), if_neg (show ¬ w = 2 by omega), if_neg (show ¬ w = 3 by omega), if_neg (show ¬ w = 4 by omega), if_neg (show ¬ w = 5 by omega)]), ⟨(Ct.wa N), (Ct.wa P), _, _, rfl⟩⟩
end HXCas
