section HXCah
theorem in_X11_water_X11 : ∀ w ∈ u_ws RX11 TX11 6, w ∈ wsX11_water := by decide +kernel
theorem ok_X11_water : okY yX11_water 1 := by decide +kernel
def rmX11_water : Room := { frames := 4, cells := 0, slots := 0, locals := 126 }
set_option maxRecDepth 100000 in
set_option maxHeartbeats 400000 in
theorem c_X11_water (l : Launch) (γ : GX) (b : Nat → Nat) (F : Nat → Sh) (N M P : Ct) (hp sd : Int) (hN : WFc N) (hF : ∀ t : Nat, t < 8 → WFs (F t)) (c : Int) (h0_ : -2147483648 ≤ c ∧ c < 2147483648) : MI l γ yX11_water wsX11_water rmX11_water [.ref (b 0), .int (iN (c))] (WX γ b F N M P hp sd) (fun r_ w_ => r_ = q_water N c ∧ Wc γ b F N P hp w_) 0 0 := by
  refine MI.of (cc := cX11_water) (maxL := 2) (rt := .int) RX11 rfl (by decide +kernel) rfl (Nat.le_of_ble_eq_true rfl) ?_
  intro X C hγ hl hnm hret
  subst hγ
  have hNn := WFc.n hN
  show Wx X 0 0 (WX X.γ b F N M P hp sd) 0 [(0, .ref (b 0)), (1, .int (iN (c)))] []
  refine x_iload_n C 1 rfl rfl dX11_water_0 ?_
  refine x_S_I C (As := [.int (iN (c))]) (rest := []) 1 gX11_water_X11_isCellOrAll (c_X11_isCellOrAll _ _ (WX X.γ b F N M P hp sd) (c) (by omega)) rfl ok_X11_isCellOrAll rfl rfl rfl rfl dX11_water_1 (fun r w1 hp => ?_)
  obtain ⟨rfl, rfl⟩ := hp
  refine x_ifeq_bz C 18 (by decide) dX11_water_4 (fun c_4 => ?_) (fun c_4 => ?_)
  · refine x_iconst (v := 0) C dX11_water_18 ?_
    exact hret _ _ _ _ dX11_water_19 rfl ⟨(by unfold q_water; omega), ⟨(Ct.wa N), (Ct.wa P), _, _, rfl⟩⟩
  · refine x_aload_n C 0 rfl rfl dX11_water_7 ?_
    refine x_get C in_X11_water_X11 0 rfl rfl 1 (by decide) (List.mem_of_getElem? (i := 1) rfl) rfl (v := .ref (b 27)) rfl dX11_water_8 ?_
    refine x_iload_n C 1 rfl rfl dX11_water_11 ?_
    refine x_V_I C (As := [.int (iN (c))]) (rest := []) 1 27 rfl rfl gX11_water_X1_waterOf rfl (MI.fN b F N M P hp sd (fun r Z => r = (if 0 ≤ c then Ct.w N c else Ct.allW N) ∧ (Ct.set_wa N (Ct.w N)) = Z) (c_X1_waterOf _ _ (adN b) N hN (c) (by omega)) (fun r w h => ⟨_, ⟨h.1, rfl⟩, h.2⟩)) rfl ok_X1_waterOf rfl rfl rfl rfl dX11_water_12 (fun r w1 hp => ?_)
    obtain ⟨_, ⟨rfl, rfl⟩, rfl⟩ := hp
    show Wx X 0 0 (WX X.γ b F (Ct.set_wa N (Ct.w N)) M P hp sd) 15 [(0, .ref (b 0)), (1, .int (iN (c)))] [.int (iN (if 0 ≤ c then Ct.w N c else Ct.allW N))]
    show Wx X 0 0 (WX X.γ b F (Ct.set_wa N (Ct.w N)) M P hp sd) 15 [(0, .ref (b 0)), (1, .int (iN (c)))] [.int (iN (if 0 ≤ c then Ct.w N c else Ct.allW N))]
    refine x_goto C 19 (by decide) dX11_water_15 ?_
    exact hret _ _ _ _ dX11_water_19 rfl ⟨(by unfold q_water; omega), ⟨(Ct.w N), (Ct.wa P), _, _, rfl⟩⟩
end HXCah
