section HXCae
theorem in_X11_turns_X1 : ∀ w ∈ u_ws RX1 TX1 13, w ∈ wsX11_turns := by decide +kernel
theorem in_X11_turns_X11 : ∀ w ∈ u_ws RX11 TX11 6, w ∈ wsX11_turns := by decide +kernel
theorem ok_X11_turns : okY yX11_turns 2 := by decide +kernel
def rmX11_turns : Room := { frames := 3, cells := 0, slots := 0, locals := 65 }
set_option maxRecDepth 100000 in
set_option maxHeartbeats 400000 in
theorem c_X11_turns (l : Launch) (γ : GX) (b : Nat → Nat) (F : Nat → Sh) (N M P : Ct) (hp sd : Int) (hN : WFc N) (hF : ∀ t : Nat, t < 8 → WFs (F t)) (i : Int) (t : Int) (h0_ : -2147483648 ≤ i ∧ i < 2147483648) (h1_ : -2147483648 ≤ t ∧ t < 2147483648) : MI l γ yX11_turns wsX11_turns rmX11_turns [.ref (b 0), .int (iN (i)), .int (iN (t))] (WX γ b F N M P hp sd) (fun r_ w_ => (((0 ≤ i ∧ i ≤ Ct.n N - 1) ∧ 0 ≤ t ∧ t ≤ 2) ∧ r_ = q_wy (Ct.wy N i) ∧ Wc γ b F (Ct.set_wy N (upz (Ct.wy N) i (wyz t))) P hp w_) ∨ (¬ ((0 ≤ i ∧ i ≤ Ct.n N - 1) ∧ 0 ≤ t ∧ t ≤ 2) ∧ r_ = -1 ∧ Wc γ b F N P hp w_)) 0 0 := by
  refine MI.of (cc := cX11_turns) (maxL := 4) (rt := .int) RX11 rfl (by decide +kernel) rfl (Nat.le_of_ble_eq_true rfl) ?_
  intro X C hγ hl hnm hret
  subst hγ
  have hNn := WFc.n hN
  show Wx X 0 0 (WX X.γ b F N M P hp sd) 0 [(0, .ref (b 0)), (1, .int (iN (i))), (2, .int (iN (t)))] []
  refine x_aload_n C 0 rfl rfl dX11_turns_0 ?_
  refine x_get C in_X11_turns_X11 0 rfl rfl 1 (by decide) (List.mem_of_getElem? (i := 1) rfl) rfl (v := .ref (b 27)) rfl dX11_turns_1 ?_
  refine x_iload_n C 1 rfl rfl dX11_turns_4 ?_
  refine x_V_I C (As := [.int (iN (i))]) (rest := []) 1 27 rfl rfl gX11_turns_X1_has rfl (MI.fN b F N M P hp sd (fun r Z => r = (bz (0 ≤ i ∧ i ≤ Ct.n N - 1)) ∧ N = Z) (c_X1_has _ _ (adN b) N hN (i) (by omega)) (fun r w h => ⟨_, ⟨h.1, rfl⟩, h.2⟩)) rfl ok_X1_has rfl rfl rfl rfl dX11_turns_5 (fun r w1 hp => ?_)
  obtain ⟨_, ⟨rfl, rfl⟩, rfl⟩ := hp
  show Wx X 0 0 (WX X.γ b F N M P hp sd) 8 [(0, .ref (b 0)), (1, .int (iN (i))), (2, .int (iN (t)))] [.int (iN (bz (0 ≤ i ∧ i ≤ Ct.n N - 1)))]
  refine x_ifne_bz C 13 (by decide) dX11_turns_8 (fun c_8 => ?_) (fun c_8 => ?_)
  · refine x_aload_n C 0 rfl rfl dX11_turns_13 ?_
    refine x_get C in_X11_turns_X11 0 rfl rfl 1 (by decide) (List.mem_of_getElem? (i := 1) rfl) rfl (v := .ref (b 27)) rfl dX11_turns_14 ?_
    refine x_get C in_X11_turns_X1 27 rfl rfl 8 (by decide) (List.mem_of_getElem? (i := 2) rfl) rfl (v := .ref (b 33)) rfl dX11_turns_17 ?_
    refine x_iload_n C 1 rfl rfl dX11_turns_20 ?_
    refine x_iaload C (f := Ct.wy N) 33 rfl (by omega) rfl dX11_turns_21 ?_
    have b92 := WFc.wy hN (i)
    refine x_S_I C (As := [.int (iN (Ct.wy N i))]) (rest := []) 1 gX11_turns_X11_wayAsTold (c_X11_wayAsTold _ _ (WX X.γ b F N M P hp sd) (Ct.wy N i) (by omega)) rfl ok_X11_wayAsTold rfl rfl rfl rfl dX11_turns_22 (fun r w1 hp => ?_)
    obtain ⟨rfl, rfl⟩ := hp
    show Wx X 0 0 (WX X.γ b F N M P hp sd) 25 [(0, .ref (b 0)), (1, .int (iN (i))), (2, .int (iN (t)))] [.int (iN (if (Ct.wy N i) = 0 then 0 else if (Ct.wy N i) < 0 then 1 else 2))]
    refine x_istore_n C [(3, .int (iN (if (Ct.wy N i) = 0 then 0 else if (Ct.wy N i) < 0 then 1 else 2))), (0, .ref (b 0)), (1, .int (iN (i))), (2, .int (iN (t)))] rfl (by decide) rfl dX11_turns_25 ?_
    refine x_aload_n C 1 rfl rfl dX11_turns_26 ?_
    refine x_get C in_X11_turns_X11 0 rfl rfl 1 (by decide) (List.mem_of_getElem? (i := 1) rfl) rfl (v := .ref (b 27)) rfl dX11_turns_27 ?_
    refine x_iload_n C 2 rfl rfl dX11_turns_30 ?_
    refine x_iload_n C 3 rfl rfl dX11_turns_31 ?_
    refine x_V_I C (As := [.int (iN (i)), .int (iN (t))]) (rest := []) 2 27 rfl rfl gX11_turns_X1_setWay rfl (MI.fN b F N M P hp sd (fun r Z => (((0 ≤ i ∧ i ≤ Ct.n N - 1) ∧ 0 ≤ t ∧ t ≤ 2) ∧ r = 1 ∧ (Ct.set_wy N (upz (Ct.wy N) i (if t = 1 then -1 else t / 2))) = Z) ∨ (¬ ((0 ≤ i ∧ i ≤ Ct.n N - 1) ∧ 0 ≤ t ∧ t ≤ 2) ∧ r = 0 ∧ N = Z)) (c_X1_setWay _ _ (adN b) N hN (i) (t) (by omega) (by omega)) (fun r w h => h.elim (fun h => ⟨_, Or.inl ⟨h.1, h.2.1, rfl⟩, h.2.2⟩) (fun h => ⟨_, Or.inr ⟨h.1, h.2.1, rfl⟩, h.2.2⟩))) rfl ok_X1_setWay rfl rfl rfl rfl dX11_turns_32 (fun r w1 hp => ?_)
    rcases hp with ⟨_, (⟨hp1, rfl, rfl⟩ | ⟨hp1, rfl, rfl⟩), rfl⟩
    · refine x_if_eq C 42 (by decide) (by decide) dX11_turns_35 (fun z => absurd z (by decide)) (fun _ => ?_)
      refine Wx.eqW (ws' := (WX X.γ b F (Ct.set_wy N (upz (Ct.wy N) i (wyz t))) M P hp sd)) (by rw [show (if t = 1 then -1 else t / 2) = wyz t by unfold wyz; omega]) ?_
      refine x_iload_n C 0 rfl rfl dX11_turns_38 ?_
      refine x_goto C 43 (by decide) dX11_turns_39 ?_
      exact hret _ _ _ _ dX11_turns_43 rfl (Or.inl ⟨(by omega), (by unfold q_wy; omega), ⟨(Ct.wa N), (Ct.wa P), _, _, rfl⟩⟩)
    · refine x_if_eq C 42 (by decide) (by decide) dX11_turns_35 (fun _ => ?_) (fun z => absurd z (by decide))
      refine x_iconst (v := 0) C dX11_turns_42 ?_
      exact hret _ _ _ _ dX11_turns_43 rfl (Or.inr ⟨(by omega), rfl, ⟨(Ct.wa N), (Ct.wa P), _, _, rfl⟩⟩)
  · refine x_iconst (v := 0) C dX11_turns_11 ?_
    exact hret _ _ _ _ dX11_turns_12 rfl (Or.inr ⟨(by omega), rfl, ⟨(Ct.wa N), (Ct.wa P), _, _, rfl⟩⟩)
end HXCae
