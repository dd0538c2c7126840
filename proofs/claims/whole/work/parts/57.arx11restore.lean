section HXCar
theorem in_X11_restore_X1 : ∀ w ∈ u_ws RX1 TX1 13, w ∈ wsX11_restore := by decide +kernel
theorem in_X11_restore_X11 : ∀ w ∈ u_ws RX11 TX11 6, w ∈ wsX11_restore := by decide +kernel
theorem ok_X11_restore : okY yX11_restore 0 := by decide +kernel
def rmX11_restore : Room := { frames := 2, cells := 0, slots := 0, locals := 81 }
set_option maxRecDepth 100000 in
set_option maxHeartbeats 400000 in
theorem c_X11_restore (l : Launch) (γ : GX) (b : Nat → Nat) (F : Nat → Sh) (N M P : Ct) (hp sd : Int) (hN : WFc N) (hF : ∀ t : Nat, t < 8 → WFs (F t)) (h0_ : hp = 0 ∨ hp = 1) : MI l γ yX11_restore wsX11_restore rmX11_restore [.ref (b 0)] (WX γ b F N M P hp sd) (fun r_ w_ => (hp = 1 ∧ r_ = Ct.dy P ∧ Wc γ b F P P hp w_) ∨ (hp = 0 ∧ r_ = -3 ∧ Wc γ b F N P hp w_)) 0 0 := by
  refine MI.of (cc := cX11_restore) (maxL := 1) (rt := .int) RX11 rfl (by decide +kernel) rfl (Nat.le_of_ble_eq_true rfl) ?_
  intro X C hγ hl hnm hret
  subst hγ
  have hNn := WFc.n hN
  show Wx X 0 0 (WX X.γ b F N M P hp sd) 0 [(0, .ref (b 0))] []
  refine x_aload_n C 0 rfl rfl dX11_restore_0 ?_
  refine x_get C in_X11_restore_X11 0 rfl rfl 4 (by decide) (List.mem_of_getElem? (i := 1) rfl) rfl (v := .int (iN (hp))) rfl dX11_restore_1 ?_
  refine x_if_ne C 10 (by decide) (by omega) dX11_restore_4 (fun c_4 => ?_) (fun c_4 => ?_)
  · refine x_aload_n C 0 rfl rfl dX11_restore_10 ?_
    refine x_get C in_X11_restore_X11 0 rfl rfl 1 (by decide) (List.mem_of_getElem? (i := 2) rfl) rfl (v := .ref (b 27)) rfl dX11_restore_11 ?_
    refine x_aload_n C 0 rfl rfl dX11_restore_14 ?_
    refine x_get C in_X11_restore_X11 0 rfl rfl 3 (by decide) (List.mem_of_getElem? (i := 3) rfl) rfl (v := .ref (b 49)) rfl dX11_restore_15 ?_
    refine x_V_V C (As := [.ref (b 49)]) (rest := []) 1 27 rfl rfl gX11_restore_X1_become rfl (MV.bNP b F N M P hp sd (fun Z => Z = Ct.set_wa P (Ct.wa N)) (c_X1_become _ _ (adN b) (adP b) N P) (fun w h => ⟨_, rfl, h⟩)) rfl ok_X1_become rfl rfl rfl rfl dX11_restore_18 (fun w1 hp => ?_)
    obtain ⟨_, rfl, rfl⟩ := hp
    refine Wx.eqW (ws' := (WX X.γ b F (Ct.set_wa P (Ct.wa N)) M P hp sd)) rfl ?_
    refine x_aload_n C 0 rfl rfl dX11_restore_21 ?_
    refine x_get C in_X11_restore_X11 0 rfl rfl 1 (by decide) (List.mem_of_getElem? (i := 2) rfl) rfl (v := .ref (b 27)) rfl dX11_restore_22 ?_
    refine x_get C in_X11_restore_X1 27 rfl rfl 3 (by decide) (List.mem_of_getElem? (i := 4) rfl) rfl (v := .int (iN (Ct.dy P))) rfl dX11_restore_25 ?_
    exact hret _ _ _ _ dX11_restore_28 rfl (Or.inl ⟨(by omega), rfl, ⟨(Ct.wa N), (Ct.wa P), _, _, rfl⟩⟩)
  · refine x_bipush C (-3) (by decide) dX11_restore_7 ?_
    exact hret _ _ _ _ dX11_restore_9 rfl (Or.inr ⟨(by omega), rfl, ⟨(Ct.wa N), (Ct.wa P), _, _, rfl⟩⟩)
end HXCar
