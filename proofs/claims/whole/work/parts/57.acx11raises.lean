section HXCac
theorem in_X11_raises_X1 : ∀ w ∈ u_ws RX1 TX1 13, w ∈ wsX11_raises := by decide +kernel
theorem in_X11_raises_X11 : ∀ w ∈ u_ws RX11 TX11 6, w ∈ wsX11_raises := by decide +kernel
theorem ok_X11_raises : okY yX11_raises 2 := by decide +kernel
def rmX11_raises : Room := { frames := 3, cells := 0, slots := 0, locals := 64 }
set_option maxRecDepth 100000 in
set_option maxHeartbeats 400000 in
theorem c_X11_raises (l : Launch) (γ : GX) (b : Nat → Nat) (F : Nat → Sh) (N M P : Ct) (hp sd : Int) (hN : WFc N) (hF : ∀ t : Nat, t < 8 → WFs (F t)) (c : Int) (v : Int) (h0_ : -2147483648 ≤ c ∧ c < 2147483648) (h1_ : -2147483648 ≤ v ∧ v < 2147483648) : MI l γ yX11_raises wsX11_raises rmX11_raises [.ref (b 0), .int (iN (c)), .int (iN (v))] (WX γ b F N M P hp sd) (fun r_ w_ => (((0 ≤ c ∧ c ≤ 14) ∧ 0 ≤ v ∧ v ≤ 20) ∧ r_ = Ct.h N c ∧ Wc γ b F (Ct.set_h N (upz (Ct.h N) c v)) P hp w_) ∨ (¬ ((0 ≤ c ∧ c ≤ 14) ∧ 0 ≤ v ∧ v ≤ 20) ∧ r_ = -1 ∧ Wc γ b F N P hp w_)) 0 0 := by
  refine MI.of (cc := cX11_raises) (maxL := 4) (rt := .int) RX11 rfl (by decide +kernel) rfl (Nat.le_of_ble_eq_true rfl) ?_
  intro X C hγ hl hnm hret
  subst hγ
  have hNn := WFc.n hN
  show Wx X 0 0 (WX X.γ b F N M P hp sd) 0 [(0, .ref (b 0)), (1, .int (iN (c))), (2, .int (iN (v)))] []
  refine x_iload_n C 1 rfl rfl dX11_raises_0 ?_
  refine x_S_I C (As := [.int (iN (c))]) (rest := []) 1 gX11_raises_X11_isCell (c_X11_isCell _ _ (WX X.γ b F N M P hp sd) (c) (by omega)) rfl ok_X11_isCell rfl rfl rfl rfl dX11_raises_1 (fun r w1 hp => ?_)
  obtain ⟨rfl, rfl⟩ := hp
  refine x_ifne_bz C 9 (by decide) dX11_raises_4 (fun c_4 => ?_) (fun c_4 => ?_)
  · refine x_aload_n C 0 rfl rfl dX11_raises_9 ?_
    refine x_get C in_X11_raises_X11 0 rfl rfl 1 (by decide) (List.mem_of_getElem? (i := 1) rfl) rfl (v := .ref (b 27)) rfl dX11_raises_10 ?_
    refine x_get C in_X11_raises_X1 27 rfl rfl 1 (by decide) (List.mem_of_getElem? (i := 2) rfl) rfl (v := .ref (b 28)) rfl dX11_raises_13 ?_
    refine x_iload_n C 1 rfl rfl dX11_raises_16 ?_
    refine x_iaload C (f := Ct.h N) 28 rfl (by omega) rfl dX11_raises_17 ?_
    have b90 := WFc.h hN (c)
    refine x_istore_n C [(3, .int (iN (Ct.h N c))), (0, .ref (b 0)), (1, .int (iN (c))), (2, .int (iN (v)))] rfl (by decide) rfl dX11_raises_18 ?_
    refine x_aload_n C 1 rfl rfl dX11_raises_19 ?_
    refine x_get C in_X11_raises_X11 0 rfl rfl 1 (by decide) (List.mem_of_getElem? (i := 1) rfl) rfl (v := .ref (b 27)) rfl dX11_raises_20 ?_
    refine x_iload_n C 2 rfl rfl dX11_raises_23 ?_
    refine x_iload_n C 3 rfl rfl dX11_raises_24 ?_
    refine x_V_I C (As := [.int (iN (c)), .int (iN (v))]) (rest := []) 2 27 rfl rfl gX11_raises_X1_setHeight rfl (MI.fN b F N M P hp sd (fun r Z => (((0 ≤ c ∧ c ≤ 14) ∧ 0 ≤ v ∧ v ≤ 20) ∧ r = 1 ∧ (Ct.set_h N (upz (Ct.h N) c v)) = Z) ∨ (¬ ((0 ≤ c ∧ c ≤ 14) ∧ 0 ≤ v ∧ v ≤ 20) ∧ r = 0 ∧ N = Z)) (c_X1_setHeight _ _ (adN b) N hN (c) (v) (by omega) (by omega)) (fun r w h => h.elim (fun h => ⟨_, Or.inl ⟨h.1, h.2.1, rfl⟩, h.2.2⟩) (fun h => ⟨_, Or.inr ⟨h.1, h.2.1, rfl⟩, h.2.2⟩))) rfl ok_X1_setHeight rfl rfl rfl rfl dX11_raises_25 (fun r w1 hp => ?_)
    rcases hp with ⟨_, (⟨hp1, rfl, rfl⟩ | ⟨hp1, rfl, rfl⟩), rfl⟩
    · refine x_if_eq C 35 (by decide) (by decide) dX11_raises_28 (fun z => absurd z (by decide)) (fun _ => ?_)
      refine x_iload_n C 0 rfl rfl dX11_raises_31 ?_
      refine x_goto C 36 (by decide) dX11_raises_32 ?_
      exact hret _ _ _ _ dX11_raises_36 rfl (Or.inl ⟨(by omega), rfl, ⟨(Ct.wa N), (Ct.wa P), _, _, rfl⟩⟩)
    · refine x_if_eq C 35 (by decide) (by decide) dX11_raises_28 (fun _ => ?_) (fun z => absurd z (by decide))
      refine x_iconst (v := 0) C dX11_raises_35 ?_
      exact hret _ _ _ _ dX11_raises_36 rfl (Or.inr ⟨(by omega), rfl, ⟨(Ct.wa N), (Ct.wa P), _, _, rfl⟩⟩)
  · refine x_iconst (v := 0) C dX11_raises_7 ?_
    exact hret _ _ _ _ dX11_raises_8 rfl (Or.inr ⟨(by omega), rfl, ⟨(Ct.wa N), (Ct.wa P), _, _, rfl⟩⟩)
end HXCac
