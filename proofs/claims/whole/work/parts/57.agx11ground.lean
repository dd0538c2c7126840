section HXCag
theorem in_X11_ground_X11 : ∀ w ∈ u_ws RX11 TX11 6, w ∈ wsX11_ground := by decide +kernel
theorem ok_X11_ground : okY yX11_ground 1 := by decide +kernel
def rmX11_ground : Room := { frames := 2, cells := 0, slots := 0, locals := 42 }
set_option maxRecDepth 100000 in
set_option maxHeartbeats 400000 in
theorem c_X11_ground (l : Launch) (γ : GX) (b : Nat → Nat) (F : Nat → Sh) (N M P : Ct) (hp sd : Int) (hN : WFc N) (hF : ∀ t : Nat, t < 8 → WFs (F t)) (c : Int) (h0_ : -2147483648 ≤ c ∧ c < 2147483648) : MI l γ yX11_ground wsX11_ground rmX11_ground [.ref (b 0), .int (iN (c))] (WX γ b F N M P hp sd) (fun r_ w_ => r_ = q_ground N c ∧ Wc γ b F N P hp w_) 0 0 := by
  refine MI.of (cc := cX11_ground) (maxL := 2) (rt := .int) RX11 rfl (by decide +kernel) rfl (Nat.le_of_ble_eq_true rfl) ?_
  intro X C hγ hl hnm hret
  subst hγ
  have hNn := WFc.n hN
  show Wx X 0 0 (WX X.γ b F N M P hp sd) 0 [(0, .ref (b 0)), (1, .int (iN (c)))] []
  refine x_iload_n C 1 rfl rfl dX11_ground_0 ?_
  refine x_S_I C (As := [.int (iN (c))]) (rest := []) 1 gX11_ground_X11_isCell (c_X11_isCell _ _ (WX X.γ b F N M P hp sd) (c) (by omega)) rfl ok_X11_isCell rfl rfl rfl rfl dX11_ground_1 (fun r w1 hp => ?_)
  obtain ⟨rfl, rfl⟩ := hp
  refine x_ifeq_bz C 18 (by decide) dX11_ground_4 (fun c_4 => ?_) (fun c_4 => ?_)
  · refine x_iconst (v := 0) C dX11_ground_18 ?_
    exact hret _ _ _ _ dX11_ground_19 rfl ⟨(by unfold q_ground; omega), ⟨(Ct.wa N), (Ct.wa P), _, _, rfl⟩⟩
  · refine x_aload_n C 0 rfl rfl dX11_ground_7 ?_
    refine x_get C in_X11_ground_X11 0 rfl rfl 1 (by decide) (List.mem_of_getElem? (i := 1) rfl) rfl (v := .ref (b 27)) rfl dX11_ground_8 ?_
    refine x_iload_n C 1 rfl rfl dX11_ground_11 ?_
    refine x_V_I C (As := [.int (iN (c))]) (rest := []) 1 27 rfl rfl gX11_ground_X1_level rfl (MI.fN b F N M P hp sd (fun r Z => r = (Ct.g N c) ∧ N = Z) (c_X1_level _ _ (adN b) N hN (c) (by omega)) (fun r w h => ⟨_, ⟨h.1, rfl⟩, h.2⟩)) rfl ok_X1_level rfl rfl rfl rfl dX11_ground_12 (fun r w1 hp => ?_)
    obtain ⟨_, ⟨rfl, rfl⟩, rfl⟩ := hp
    show Wx X 0 0 (WX X.γ b F N M P hp sd) 15 [(0, .ref (b 0)), (1, .int (iN (c)))] [.int (iN (Ct.g N c))]
    show Wx X 0 0 (WX X.γ b F N M P hp sd) 15 [(0, .ref (b 0)), (1, .int (iN (c)))] [.int (iN (Ct.g N c))]
    have b94 := WFc.g hN (c)
    refine x_goto C 19 (by decide) dX11_ground_15 ?_
    exact hret _ _ _ _ dX11_ground_19 rfl ⟨(by unfold q_ground; omega), ⟨(Ct.wa N), (Ct.wa P), _, _, rfl⟩⟩
end HXCag
