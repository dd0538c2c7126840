section HXCaq
theorem in_X11_image_X1 : ∀ w ∈ u_ws RX1 TX1 13, w ∈ wsX11_image := by decide +kernel
theorem in_X11_image_X11 : ∀ w ∈ u_ws RX11 TX11 6, w ∈ wsX11_image := by decide +kernel
theorem ok_X11_image : okY yX11_image 0 := by decide +kernel
def rmX11_image : Room := { frames := 2, cells := 0, slots := 0, locals := 81 }
set_option maxRecDepth 100000 in
set_option maxHeartbeats 400000 in
theorem c_X11_image (l : Launch) (γ : GX) (b : Nat → Nat) (F : Nat → Sh) (N M P : Ct) (hp sd : Int) (hN : WFc N) (hF : ∀ t : Nat, t < 8 → WFs (F t)) : MI l γ yX11_image wsX11_image rmX11_image [.ref (b 0)] (WX γ b F N M P hp sd) (fun r_ w_ => r_ = Ct.dy N ∧ Wc γ b F N N 1 w_) 0 0 := by
  refine MI.of (cc := cX11_image) (maxL := 1) (rt := .int) RX11 rfl (by decide +kernel) rfl (Nat.le_of_ble_eq_true rfl) ?_
  intro X C hγ hl hnm hret
  subst hγ
  have hNn := WFc.n hN
  show Wx X 0 0 (WX X.γ b F N M P hp sd) 0 [(0, .ref (b 0))] []
  refine x_aload_n C 0 rfl rfl dX11_image_0 ?_
  refine x_get C in_X11_image_X11 0 rfl rfl 3 (by decide) (List.mem_of_getElem? (i := 1) rfl) rfl (v := .ref (b 49)) rfl dX11_image_1 ?_
  refine x_aload_n C 0 rfl rfl dX11_image_4 ?_
  refine x_get C in_X11_image_X11 0 rfl rfl 1 (by decide) (List.mem_of_getElem? (i := 2) rfl) rfl (v := .ref (b 27)) rfl dX11_image_5 ?_
  refine x_V_V C (As := [.ref (b 27)]) (rest := []) 1 49 rfl rfl gX11_image_X1_become rfl (MV.bPN b F N M P hp sd (fun Z => Z = Ct.set_wa N (Ct.wa P)) (c_X1_become _ _ (adP b) (adN b) P N) (fun w h => ⟨_, rfl, h⟩)) rfl ok_X1_become rfl rfl rfl rfl dX11_image_8 (fun w1 hp => ?_)
  obtain ⟨_, rfl, rfl⟩ := hp
  refine Wx.eqW (ws' := (WX X.γ b F N M (Ct.set_wa N (Ct.wa P)) hp sd)) rfl ?_
  refine x_aload_n C 0 rfl rfl dX11_image_11 ?_
  refine x_iconst (v := 0) C dX11_image_12 ?_
  refine x_put C in_X11_image_X11 tyX11 tyX11_ok nmX11 0 rfl rfl 4 (by decide) (List.mem_of_getElem? (i := 3) rfl) rfl rfl rfl (nar_z (by decide)) (fits_z (by decide)) (Nat.le_of_ble_eq_true rfl) (WX X.γ b F N M (Ct.set_wa N (Ct.wa P)) 1 sd) rfl dX11_image_13 ?_
  refine x_aload_n C 0 rfl rfl dX11_image_16 ?_
  refine x_get C in_X11_image_X11 0 rfl rfl 1 (by decide) (List.mem_of_getElem? (i := 2) rfl) rfl (v := .ref (b 27)) rfl dX11_image_17 ?_
  refine x_get C in_X11_image_X1 27 rfl rfl 3 (by decide) (List.mem_of_getElem? (i := 4) rfl) rfl (v := .int (iN (Ct.dy N))) rfl dX11_image_20 ?_
  exact hret _ _ _ _ dX11_image_23 rfl ⟨rfl, ⟨(Ct.wa N), (Ct.wa P), _, _, rfl⟩⟩
end HXCaq
