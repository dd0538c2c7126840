section HXCab
theorem in_X11_walker_X1 : ∀ w ∈ u_ws RX1 TX1 13, w ∈ wsX11_walker := by decide +kernel
theorem in_X11_walker_X11 : ∀ w ∈ u_ws RX11 TX11 6, w ∈ wsX11_walker := by decide +kernel
theorem ok_X11_walker : okY yX11_walker 2 := by decide +kernel
def rmX11_walker : Room := { frames := 3, cells := 0, slots := 0, locals := 66 }
set_option maxRecDepth 100000 in
set_option maxHeartbeats 400000 in
theorem c_X11_walker (l : Launch) (γ : GX) (b : Nat → Nat) (F : Nat → Sh) (N M P : Ct) (hp sd : Int) (hN : WFc N) (hF : ∀ t : Nat, t < 8 → WFs (F t)) (i : Int) (w : Int) (h0_ : -2147483648 ≤ i ∧ i < 2147483648) (h1_ : -2147483648 ≤ w ∧ w < 2147483648) : MI l γ yX11_walker wsX11_walker rmX11_walker [.ref (b 0), .int (iN (i)), .int (iN (w))] (WX γ b F N M P hp sd) (fun r_ w_ => r_ = q_walker N i w ∧ Wc γ b F N P hp w_) 0 0 := by
  refine MI.of (cc := cX11_walker) (maxL := 3) (rt := .int) RX11 rfl (by decide +kernel) rfl (Nat.le_of_ble_eq_true rfl) ?_
  intro X C hγ hl hnm hret
  subst hγ
  have hNn := WFc.n hN
  show Wx X 0 0 (WX X.γ b F N M P hp sd) 0 [(0, .ref (b 0)), (1, .int (iN (i))), (2, .int (iN (w)))] []
  refine x_aload_n C 0 rfl rfl dX11_walker_0 ?_
  refine x_get C in_X11_walker_X11 0 rfl rfl 1 (by decide) (List.mem_of_getElem? (i := 1) rfl) rfl (v := .ref (b 27)) rfl dX11_walker_1 ?_
  refine x_iload_n C 1 rfl rfl dX11_walker_4 ?_
  refine x_V_I C (As := [.int (iN (i))]) (rest := []) 1 27 rfl rfl gX11_walker_X1_has rfl (MI.fN b F N M P hp sd (fun r Z => r = (bz (0 ≤ i ∧ i ≤ Ct.n N - 1)) ∧ N = Z) (c_X1_has _ _ (adN b) N hN (i) (by omega)) (fun r w h => ⟨_, ⟨h.1, rfl⟩, h.2⟩)) rfl ok_X1_has rfl rfl rfl rfl dX11_walker_5 (fun r w1 hp => ?_)
  obtain ⟨_, ⟨rfl, rfl⟩, rfl⟩ := hp
  show Wx X 0 0 (WX X.γ b F N M P hp sd) 8 [(0, .ref (b 0)), (1, .int (iN (i))), (2, .int (iN (w)))] [.int (iN (bz (0 ≤ i ∧ i ≤ Ct.n N - 1)))]
  refine x_ifne_bz C 13 (by decide) dX11_walker_8 (fun c_8 => ?_) (fun c_8 => ?_)
  · refine x_iload_n C 2 rfl rfl dX11_walker_13 ?_
    rcases (show w = 0 ∨ w = 1 ∨ w = 2 ∨ w = 3 ∨ w = 4 ∨ w = 5 ∨ w = 6 ∨ w = 7 ∨ w = 8 ∨ (w < 0 ∨ 8 < w) by omega) with s_14 | s_14 | s_14 | s_14 | s_14 | s_14 | s_14 | s_14 | s_14 | s_14
    · refine x_tabIn C 64 (50) (by omega) (by omega) (by omega) (by rw [s_14]; rfl) (by decide) dX11_walker_14 ?_
      refine x_aload_n C 0 rfl rfl dX11_walker_64 ?_
      refine x_get C in_X11_walker_X11 0 rfl rfl 1 (by decide) (List.mem_of_getElem? (i := 1) rfl) rfl (v := .ref (b 27)) rfl dX11_walker_65 ?_
      refine x_get C in_X11_walker_X1 27 rfl rfl 4 (by decide) (List.mem_of_getElem? (i := 2) rfl) rfl (v := .ref (b 29)) rfl dX11_walker_68 ?_
      refine x_iload_n C 1 rfl rfl dX11_walker_71 ?_
      refine x_iaload C (f := Ct.kd N) 29 rfl (by omega) rfl dX11_walker_72 ?_
      have b81 := WFc.kd hN (i)
      exact hret _ _ _ _ dX11_walker_73 rfl ⟨(by unfold q_walker; rw [if_pos (show q_one N i from (show 0 ≤ i ∧ i ≤ Ct.n N - 1 by omega))]; unfold q_walk q_wy; omega), ⟨(Ct.wa N), (Ct.wa P), _, _, rfl⟩⟩
    · refine x_tabIn C 74 (60) (by omega) (by omega) (by omega) (by rw [s_14]; rfl) (by decide) dX11_walker_14 ?_
      refine x_aload_n C 0 rfl rfl dX11_walker_74 ?_
      refine x_get C in_X11_walker_X11 0 rfl rfl 1 (by decide) (List.mem_of_getElem? (i := 1) rfl) rfl (v := .ref (b 27)) rfl dX11_walker_75 ?_
      refine x_get C in_X11_walker_X1 27 rfl rfl 5 (by decide) (List.mem_of_getElem? (i := 3) rfl) rfl (v := .ref (b 30)) rfl dX11_walker_78 ?_
      refine x_iload_n C 1 rfl rfl dX11_walker_81 ?_
      refine x_iaload C (f := Ct.fg N) 30 rfl (by omega) rfl dX11_walker_82 ?_
      have b82 := WFc.fg hN (i)
      exact hret _ _ _ _ dX11_walker_83 rfl ⟨(by unfold q_walker; rw [if_pos (show q_one N i from (show 0 ≤ i ∧ i ≤ Ct.n N - 1 by omega))]; unfold q_walk q_wy; omega), ⟨(Ct.wa N), (Ct.wa P), _, _, rfl⟩⟩
    · refine x_tabIn C 84 (70) (by omega) (by omega) (by omega) (by rw [s_14]; rfl) (by decide) dX11_walker_14 ?_
      refine x_aload_n C 0 rfl rfl dX11_walker_84 ?_
      refine x_get C in_X11_walker_X11 0 rfl rfl 1 (by decide) (List.mem_of_getElem? (i := 1) rfl) rfl (v := .ref (b 27)) rfl dX11_walker_85 ?_
      refine x_get C in_X11_walker_X1 27 rfl rfl 6 (by decide) (List.mem_of_getElem? (i := 4) rfl) rfl (v := .ref (b 31)) rfl dX11_walker_88 ?_
      refine x_iload_n C 1 rfl rfl dX11_walker_91 ?_
      refine x_iaload C (f := Ct.ag N) 31 rfl (by omega) rfl dX11_walker_92 ?_
      have b83 := WFc.ag hN (i)
      exact hret _ _ _ _ dX11_walker_93 rfl ⟨(by unfold q_walker; rw [if_pos (show q_one N i from (show 0 ≤ i ∧ i ≤ Ct.n N - 1 by omega))]; unfold q_walk q_wy; omega), ⟨(Ct.wa N), (Ct.wa P), _, _, rfl⟩⟩
    · refine x_tabIn C 94 (80) (by omega) (by omega) (by omega) (by rw [s_14]; rfl) (by decide) dX11_walker_14 ?_
      refine x_aload_n C 0 rfl rfl dX11_walker_94 ?_
      refine x_get C in_X11_walker_X11 0 rfl rfl 1 (by decide) (List.mem_of_getElem? (i := 1) rfl) rfl (v := .ref (b 27)) rfl dX11_walker_95 ?_
      refine x_get C in_X11_walker_X1 27 rfl rfl 7 (by decide) (List.mem_of_getElem? (i := 5) rfl) rfl (v := .ref (b 32)) rfl dX11_walker_98 ?_
      refine x_iload_n C 1 rfl rfl dX11_walker_101 ?_
      refine x_iaload C (f := Ct.po N) 32 rfl (by omega) rfl dX11_walker_102 ?_
      have b84 := WFc.po hN (i)
      exact hret _ _ _ _ dX11_walker_103 rfl ⟨(by unfold q_walker; rw [if_pos (show q_one N i from (show 0 ≤ i ∧ i ≤ Ct.n N - 1 by omega))]; unfold q_walk q_wy; omega), ⟨(Ct.wa N), (Ct.wa P), _, _, rfl⟩⟩
    · refine x_tabIn C 104 (90) (by omega) (by omega) (by omega) (by rw [s_14]; rfl) (by decide) dX11_walker_14 ?_
      refine x_aload_n C 0 rfl rfl dX11_walker_104 ?_
      refine x_get C in_X11_walker_X11 0 rfl rfl 1 (by decide) (List.mem_of_getElem? (i := 1) rfl) rfl (v := .ref (b 27)) rfl dX11_walker_105 ?_
      refine x_get C in_X11_walker_X1 27 rfl rfl 8 (by decide) (List.mem_of_getElem? (i := 6) rfl) rfl (v := .ref (b 33)) rfl dX11_walker_108 ?_
      refine x_iload_n C 1 rfl rfl dX11_walker_111 ?_
      refine x_iaload C (f := Ct.wy N) 33 rfl (by omega) rfl dX11_walker_112 ?_
      have b85 := WFc.wy hN (i)
      refine x_S_I C (As := [.int (iN (Ct.wy N i))]) (rest := []) 1 gX11_walker_X11_wayAsTold (c_X11_wayAsTold _ _ (WX X.γ b F N M P hp sd) (Ct.wy N i) (by omega)) rfl ok_X11_wayAsTold rfl rfl rfl rfl dX11_walker_113 (fun r w1 hp => ?_)
      obtain ⟨rfl, rfl⟩ := hp
      show Wx X 0 0 (WX X.γ b F N M P hp sd) 116 [(0, .ref (b 0)), (1, .int (iN (i))), (2, .int (iN (w)))] [.int (iN (if (Ct.wy N i) = 0 then 0 else if (Ct.wy N i) < 0 then 1 else 2))]
      exact hret _ _ _ _ dX11_walker_116 rfl ⟨(by unfold q_walker; rw [if_pos (show q_one N i from (show 0 ≤ i ∧ i ≤ Ct.n N - 1 by omega))]; unfold q_walk q_wy; omega), ⟨(Ct.wa N), (Ct.wa P), _, _, rfl⟩⟩
    · refine x_tabIn C 117 (103) (by omega) (by omega) (by omega) (by rw [s_14]; rfl) (by decide) dX11_walker_14 ?_
      refine x_aload_n C 0 rfl rfl dX11_walker_117 ?_
      refine x_get C in_X11_walker_X11 0 rfl rfl 1 (by decide) (List.mem_of_getElem? (i := 1) rfl) rfl (v := .ref (b 27)) rfl dX11_walker_118 ?_
      refine x_get C in_X11_walker_X1 27 rfl rfl 9 (by decide) (List.mem_of_getElem? (i := 7) rfl) rfl (v := .ref (b 34)) rfl dX11_walker_121 ?_
      refine x_iload_n C 1 rfl rfl dX11_walker_124 ?_
      refine x_iaload C (f := Ct.pr N) 34 rfl (by omega) rfl dX11_walker_125 ?_
      have b86 := WFc.pr hN (i)
      exact hret _ _ _ _ dX11_walker_126 rfl ⟨(by unfold q_walker; rw [if_pos (show q_one N i from (show 0 ≤ i ∧ i ≤ Ct.n N - 1 by omega))]; unfold q_walk q_wy; omega), ⟨(Ct.wa N), (Ct.wa P), _, _, rfl⟩⟩
    · refine x_tabIn C 127 (113) (by omega) (by omega) (by omega) (by rw [s_14]; rfl) (by decide) dX11_walker_14 ?_
      refine x_aload_n C 0 rfl rfl dX11_walker_127 ?_
      refine x_get C in_X11_walker_X11 0 rfl rfl 1 (by decide) (List.mem_of_getElem? (i := 1) rfl) rfl (v := .ref (b 27)) rfl dX11_walker_128 ?_
      refine x_get C in_X11_walker_X1 27 rfl rfl 11 (by decide) (List.mem_of_getElem? (i := 8) rfl) rfl (v := .ref (b 36)) rfl dX11_walker_131 ?_
      refine x_iload_n C 1 rfl rfl dX11_walker_134 ?_
      refine x_iaload C (f := Ct.sr N) 36 rfl (by omega) rfl dX11_walker_135 ?_
      have b87 := WFc.sr hN (i)
      exact hret _ _ _ _ dX11_walker_136 rfl ⟨(by unfold q_walker; rw [if_pos (show q_one N i from (show 0 ≤ i ∧ i ≤ Ct.n N - 1 by omega))]; unfold q_walk q_wy; omega), ⟨(Ct.wa N), (Ct.wa P), _, _, rfl⟩⟩
    · refine x_tabIn C 137 (123) (by omega) (by omega) (by omega) (by rw [s_14]; rfl) (by decide) dX11_walker_14 ?_
      refine x_aload_n C 0 rfl rfl dX11_walker_137 ?_
      refine x_get C in_X11_walker_X11 0 rfl rfl 1 (by decide) (List.mem_of_getElem? (i := 1) rfl) rfl (v := .ref (b 27)) rfl dX11_walker_138 ?_
      refine x_iload_n C 1 rfl rfl dX11_walker_141 ?_
      refine x_V_I C (As := [.int (iN (i))]) (rest := []) 1 27 rfl rfl gX11_walker_X1_shownAge rfl (MI.kN b F N M P hp sd (fun r Z => r = (shF (Ct.kd N i) (Ct.fg N i) (Ct.ag N i)) ∧ N = Z) (c_X1_shownAge _ _ (adN b) N hN (i) (by omega)) (fun r w h => ⟨_, ⟨h.1, rfl⟩, h.2⟩)) rfl ok_X1_shownAge rfl rfl rfl rfl dX11_walker_142 (fun r w1 hp => ?_)
      obtain ⟨_, ⟨rfl, rfl⟩, rfl⟩ := hp
      show Wx X 0 0 (WX X.γ b F N M P hp sd) 145 [(0, .ref (b 0)), (1, .int (iN (i))), (2, .int (iN (w)))] [.int (iN (shF (Ct.kd N i) (Ct.fg N i) (Ct.ag N i)))]
      show Wx X 0 0 (WX X.γ b F N M P hp sd) 145 [(0, .ref (b 0)), (1, .int (iN (i))), (2, .int (iN (w)))] [.int (iN (shF (Ct.kd N i) (Ct.fg N i) (Ct.ag N i)))]
      have b88 := shF_b (k := Ct.kd N i) (WFc.fg hN i) (WFc.ag hN i)
      exact hret _ _ _ _ dX11_walker_145 rfl ⟨(by unfold q_walker; rw [if_pos (show q_one N i from (show 0 ≤ i ∧ i ≤ Ct.n N - 1 by omega))]; unfold q_walk q_wy; omega), ⟨(Ct.wa N), (Ct.wa P), _, _, rfl⟩⟩
    · refine x_tabIn C 146 (132) (by omega) (by omega) (by omega) (by rw [s_14]; rfl) (by decide) dX11_walker_14 ?_
      refine x_aload_n C 0 rfl rfl dX11_walker_146 ?_
      refine x_get C in_X11_walker_X11 0 rfl rfl 1 (by decide) (List.mem_of_getElem? (i := 1) rfl) rfl (v := .ref (b 27)) rfl dX11_walker_147 ?_
      refine x_get C in_X11_walker_X1 27 rfl rfl 10 (by decide) (List.mem_of_getElem? (i := 9) rfl) rfl (v := .ref (b 35)) rfl dX11_walker_150 ?_
      refine x_iload_n C 1 rfl rfl dX11_walker_153 ?_
      refine x_iaload C (f := Ct.sp N) 35 rfl (by omega) rfl dX11_walker_154 ?_
      have b89 := WFc.sp hN (i)
      exact hret _ _ _ _ dX11_walker_155 rfl ⟨(by unfold q_walker; rw [if_pos (show q_one N i from (show 0 ≤ i ∧ i ≤ Ct.n N - 1 by omega))]; unfold q_walk q_wy; omega), ⟨(Ct.wa N), (Ct.wa P), _, _, rfl⟩⟩
    · refine x_tabOut C 156 (by omega) s_14 (by decide) dX11_walker_14 ?_
      refine x_iconst (v := 0) C dX11_walker_156 ?_
      exact hret _ _ _ _ dX11_walker_157 rfl ⟨(by unfold q_walker; rw [if_pos (show q_one N i from (show 0 ≤ i ∧ i ≤ Ct.n N - 1 by omega))]; unfold q_walk q_wy; omega), ⟨(Ct.wa N), (Ct.wa P), _, _, rfl⟩⟩
  · refine x_iconst (v := 0) C dX11_walker_11 ?_
    exact hret _ _ _ _ dX11_walker_12 rfl ⟨(by unfold q_walker; rw [if_neg (show ¬ q_one N i from (show ¬ (0 ≤ i ∧ i ≤ Ct.n N - 1) by omega))]), ⟨(Ct.wa N), (Ct.wa P), _, _, rfl⟩⟩
end HXCab
