section HXCaa
theorem in_X11_height_X1 : ∀ w ∈ u_ws RX1 TX1 13, w ∈ wsX11_height := by decide +kernel
theorem in_X11_height_X11 : ∀ w ∈ u_ws RX11 TX11 6, w ∈ wsX11_height := by decide +kernel
theorem ok_X11_height : okY yX11_height 1 := by decide +kernel
def rmX11_height : Room := { frames := 2, cells := 0, slots := 0, locals := 42 }
set_option maxRecDepth 100000 in
set_option maxHeartbeats 400000 in
theorem c_X11_height (l : Launch) (γ : GX) (b : Nat → Nat) (F : Nat → Sh) (N M P : Ct) (hp sd : Int) (hN : WFc N) (hF : ∀ t : Nat, t < 8 → WFs (F t)) (c : Int) (h0_ : -2147483648 ≤ c ∧ c < 2147483648) : MI l γ yX11_height wsX11_height rmX11_height [.ref (b 0), .int (iN (c))] (WX γ b F N M P hp sd) (fun r_ w_ => r_ = q_height N c ∧ Wc γ b F N P hp w_) 0 0 := by
  refine MI.of (cc := cX11_height) (maxL := 2) (rt := .int) RX11 rfl (by decide +kernel) rfl (Nat.le_of_ble_eq_true rfl) ?_
  intro X C hγ hl hnm hret
  subst hγ
  have hNn := WFc.n hN
  show Wx X 0 0 (WX X.γ b F N M P hp sd) 0 [(0, .ref (b 0)), (1, .int (iN (c)))] []
  refine x_iload_n C 1 rfl rfl dX11_height_0 ?_
  refine x_S_I C (As := [.int (iN (c))]) (rest := []) 1 gX11_height_X11_isCell (c_X11_isCell _ _ (WX X.γ b F N M P hp sd) (c) (by omega)) rfl ok_X11_isCell rfl rfl rfl rfl dX11_height_1 (fun r w1 hp => ?_)
  obtain ⟨rfl, rfl⟩ := hp
  refine x_ifeq_bz C 19 (by decide) dX11_height_4 (fun c_4 => ?_) (fun c_4 => ?_)
  · refine x_iconst (v := 0) C dX11_height_19 ?_
    exact hret _ _ _ _ dX11_height_20 rfl ⟨(by unfold q_height; omega), ⟨(Ct.wa N), (Ct.wa P), _, _, rfl⟩⟩
  · refine x_aload_n C 0 rfl rfl dX11_height_7 ?_
    refine x_get C in_X11_height_X11 0 rfl rfl 1 (by decide) (List.mem_of_getElem? (i := 1) rfl) rfl (v := .ref (b 27)) rfl dX11_height_8 ?_
    refine x_get C in_X11_height_X1 27 rfl rfl 1 (by decide) (List.mem_of_getElem? (i := 2) rfl) rfl (v := .ref (b 28)) rfl dX11_height_11 ?_
    refine x_iload_n C 1 rfl rfl dX11_height_14 ?_
    refine x_iaload C (f := Ct.h N) 28 rfl (by omega) rfl dX11_height_15 ?_
    have b80 := WFc.h hN (c)
    refine x_goto C 20 (by decide) dX11_height_16 ?_
    exact hret _ _ _ _ dX11_height_20 rfl ⟨(by unfold q_height; omega), ⟨(Ct.wa N), (Ct.wa P), _, _, rfl⟩⟩
end HXCaa
