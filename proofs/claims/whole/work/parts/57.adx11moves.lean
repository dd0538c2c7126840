section HXCad
theorem in_X11_moves_X1 : ∀ w ∈ u_ws RX1 TX1 13, w ∈ wsX11_moves := by decide +kernel
theorem in_X11_moves_X11 : ∀ w ∈ u_ws RX11 TX11 6, w ∈ wsX11_moves := by decide +kernel
theorem ok_X11_moves : okY yX11_moves 2 := by decide +kernel
def rmX11_moves : Room := { frames := 3, cells := 0, slots := 0, locals := 65 }
set_option maxRecDepth 100000 in
set_option maxHeartbeats 400000 in
theorem c_X11_moves (l : Launch) (γ : GX) (b : Nat → Nat) (F : Nat → Sh) (N M P : Ct) (hp sd : Int) (hN : WFc N) (hF : ∀ t : Nat, t < 8 → WFs (F t)) (i : Int) (c : Int) (h0_ : -2147483648 ≤ i ∧ i < 2147483648) (h1_ : -2147483648 ≤ c ∧ c < 2147483648) : MI l γ yX11_moves wsX11_moves rmX11_moves [.ref (b 0), .int (iN (i)), .int (iN (c))] (WX γ b F N M P hp sd) (fun r_ w_ => (((0 ≤ i ∧ i ≤ Ct.n N - 1) ∧ 0 ≤ c ∧ c ≤ 14) ∧ r_ = Ct.po N i ∧ Wc γ b F (Ct.set_po N (upz (Ct.po N) i c)) P hp w_) ∨ (¬ ((0 ≤ i ∧ i ≤ Ct.n N - 1) ∧ 0 ≤ c ∧ c ≤ 14) ∧ r_ = -1 ∧ Wc γ b F N P hp w_)) 0 0 := by
  refine MI.of (cc := cX11_moves) (maxL := 4) (rt := .int) RX11 rfl (by decide +kernel) rfl (Nat.le_of_ble_eq_true rfl) ?_
  intro X C hγ hl hnm hret
  subst hγ
  have hNn := WFc.n hN
  show Wx X 0 0 (WX X.γ b F N M P hp sd) 0 [(0, .ref (b 0)), (1, .int (iN (i))), (2, .int (iN (c)))] []
  refine x_aload_n C 0 rfl rfl dX11_moves_0 ?_
  refine x_get C in_X11_moves_X11 0 rfl rfl 1 (by decide) (List.mem_of_getElem? (i := 1) rfl) rfl (v := .ref (b 27)) rfl dX11_moves_1 ?_
  refine x_iload_n C 1 rfl rfl dX11_moves_4 ?_
  refine x_V_I C (As := [.int (iN (i))]) (rest := []) 1 27 rfl rfl gX11_moves_X1_has rfl (MI.fN b F N M P hp sd (fun r Z => r = (bz (0 ≤ i ∧ i ≤ Ct.n N - 1)) ∧ N = Z) (c_X1_has _ _ (adN b) N hN (i) (by omega)) (fun r w h => ⟨_, ⟨h.1, rfl⟩, h.2⟩)) rfl ok_X1_has rfl rfl rfl rfl dX11_moves_5 (fun r w1 hp => ?_)
  obtain ⟨_, ⟨rfl, rfl⟩, rfl⟩ := hp
  show Wx X 0 0 (WX X.γ b F N M P hp sd) 8 [(0, .ref (b 0)), (1, .int (iN (i))), (2, .int (iN (c)))] [.int (iN (bz (0 ≤ i ∧ i ≤ Ct.n N - 1)))]
  refine x_ifne_bz C 13 (by decide) dX11_moves_8 (fun c_8 => ?_) (fun c_8 => ?_)
  · refine x_aload_n C 0 rfl rfl dX11_moves_13 ?_
    refine x_get C in_X11_moves_X11 0 rfl rfl 1 (by decide) (List.mem_of_getElem? (i := 1) rfl) rfl (v := .ref (b 27)) rfl dX11_moves_14 ?_
    refine x_get C in_X11_moves_X1 27 rfl rfl 7 (by decide) (List.mem_of_getElem? (i := 2) rfl) rfl (v := .ref (b 32)) rfl dX11_moves_17 ?_
    refine x_iload_n C 1 rfl rfl dX11_moves_20 ?_
    refine x_iaload C (f := Ct.po N) 32 rfl (by omega) rfl dX11_moves_21 ?_
    have b91 := WFc.po hN (i)
    refine x_istore_n C [(3, .int (iN (Ct.po N i))), (0, .ref (b 0)), (1, .int (iN (i))), (2, .int (iN (c)))] rfl (by decide) rfl dX11_moves_22 ?_
    refine x_aload_n C 1 rfl rfl dX11_moves_23 ?_
    refine x_get C in_X11_moves_X11 0 rfl rfl 1 (by decide) (List.mem_of_getElem? (i := 1) rfl) rfl (v := .ref (b 27)) rfl dX11_moves_24 ?_
    refine x_iload_n C 2 rfl rfl dX11_moves_27 ?_
    refine x_iload_n C 3 rfl rfl dX11_moves_28 ?_
    refine x_V_I C (As := [.int (iN (i)), .int (iN (c))]) (rest := []) 2 27 rfl rfl gX11_moves_X1_setPlace rfl (MI.fN b F N M P hp sd (fun r Z => (((0 ≤ i ∧ i ≤ Ct.n N - 1) ∧ 0 ≤ c ∧ c ≤ 14) ∧ r = 1 ∧ (Ct.set_po N (upz (Ct.po N) i c)) = Z) ∨ (¬ ((0 ≤ i ∧ i ≤ Ct.n N - 1) ∧ 0 ≤ c ∧ c ≤ 14) ∧ r = 0 ∧ N = Z)) (c_X1_setPlace _ _ (adN b) N hN (i) (c) (by omega) (by omega)) (fun r w h => h.elim (fun h => ⟨_, Or.inl ⟨h.1, h.2.1, rfl⟩, h.2.2⟩) (fun h => ⟨_, Or.inr ⟨h.1, h.2.1, rfl⟩, h.2.2⟩))) rfl ok_X1_setPlace rfl rfl rfl rfl dX11_moves_29 (fun r w1 hp => ?_)
    rcases hp with ⟨_, (⟨hp1, rfl, rfl⟩ | ⟨hp1, rfl, rfl⟩), rfl⟩
    · refine x_if_eq C 39 (by decide) (by decide) dX11_moves_32 (fun z => absurd z (by decide)) (fun _ => ?_)
      refine x_iload_n C 0 rfl rfl dX11_moves_35 ?_
      refine x_goto C 40 (by decide) dX11_moves_36 ?_
      exact hret _ _ _ _ dX11_moves_40 rfl (Or.inl ⟨(by omega), rfl, ⟨(Ct.wa N), (Ct.wa P), _, _, rfl⟩⟩)
    · refine x_if_eq C 39 (by decide) (by decide) dX11_moves_32 (fun _ => ?_) (fun z => absurd z (by decide))
      refine x_iconst (v := 0) C dX11_moves_39 ?_
      exact hret _ _ _ _ dX11_moves_40 rfl (Or.inr ⟨(by omega), rfl, ⟨(Ct.wa N), (Ct.wa P), _, _, rfl⟩⟩)
  · refine x_iconst (v := 0) C dX11_moves_11 ?_
    exact hret _ _ _ _ dX11_moves_12 rfl (Or.inr ⟨(by omega), rfl, ⟨(Ct.wa N), (Ct.wa P), _, _, rfl⟩⟩)
end HXCad
