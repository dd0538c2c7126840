section HXCai
theorem in_X11_rise_X11 : ∀ w ∈ u_ws RX11 TX11 6, w ∈ wsX11_rise := by decide +kernel
theorem ok_X11_rise : okY yX11_rise 1 := by decide +kernel
def rmX11_rise : Room := { frames := 2, cells := 0, slots := 0, locals := 45 }
set_option maxRecDepth 100000 in
set_option maxHeartbeats 400000 in
theorem c_X11_rise (l : Launch) (γ : GX) (b : Nat → Nat) (F : Nat → Sh) (N M P : Ct) (hp sd : Int) (hN : WFc N) (hF : ∀ t : Nat, t < 8 → WFs (F t)) (c : Int) (h0_ : -2147483648 ≤ c ∧ c < 2147483648) : MI l γ yX11_rise wsX11_rise rmX11_rise [.ref (b 0), .int (iN (c))] (WX γ b F N M P hp sd) (fun r_ w_ => r_ = (if 0 ≤ c ∧ c ≤ 13 then Ct.g N (c + 1) - Ct.g N c else 1000000001) ∧ Wc γ b F N P hp w_) 0 0 := by
  refine MI.of (cc := cX11_rise) (maxL := 2) (rt := .int) RX11 rfl (by decide +kernel) rfl (Nat.le_of_ble_eq_true rfl) ?_
  intro X C hγ hl hnm hret
  subst hγ
  have hNn := WFc.n hN
  show Wx X 0 0 (WX X.γ b F N M P hp sd) 0 [(0, .ref (b 0)), (1, .int (iN (c)))] []
  refine x_iload_n C 1 rfl rfl dX11_rise_0 ?_
  refine x_iconst (v := 0) C dX11_rise_1 ?_
  refine x_bipush C (13) (by decide) dX11_rise_2 ?_
  refine x_S_I C (As := [.int (iN (c)), .int (iN (0)), .int (iN (13))]) (rest := []) 3 gX11_rise_X11_isWithin (c_X11_isWithin _ _ (WX X.γ b F N M P hp sd) (c) (0) (13) (by omega) (by omega) (by omega)) rfl ok_X11_isWithin rfl rfl rfl rfl dX11_rise_4 (fun r w1 hp => ?_)
  obtain ⟨rfl, rfl⟩ := hp
  refine x_ifeq_bz C 21 (by decide) dX11_rise_7 (fun c_7 => ?_) (fun c_7 => ?_)
  · refine x_ldc C (1000000001) (List.mem_of_getElem? (i := 2) rfl) (by decide) dX11_rise_21 ?_
    exact hret _ _ _ _ dX11_rise_23 rfl ⟨(by omega), ⟨(Ct.wa N), (Ct.wa P), _, _, rfl⟩⟩
  · refine x_aload_n C 0 rfl rfl dX11_rise_10 ?_
    refine x_get C in_X11_rise_X11 0 rfl rfl 1 (by decide) (List.mem_of_getElem? (i := 1) rfl) rfl (v := .ref (b 27)) rfl dX11_rise_11 ?_
    refine x_iload_n C 1 rfl rfl dX11_rise_14 ?_
    refine x_V_I C (As := [.int (iN (c))]) (rest := []) 1 27 rfl rfl gX11_rise_X1_riseFrom rfl (MI.fN b F N M P hp sd (fun r Z => r = (Ct.g N (c + 1) - Ct.g N c) ∧ N = Z) (c_X1_riseFrom _ _ (adN b) N hN (c) (by omega)) (fun r w h => ⟨_, ⟨h.1, rfl⟩, h.2⟩)) rfl ok_X1_riseFrom rfl rfl rfl rfl dX11_rise_15 (fun r w1 hp => ?_)
    obtain ⟨_, ⟨rfl, rfl⟩, rfl⟩ := hp
    show Wx X 0 0 (WX X.γ b F N M P hp sd) 18 [(0, .ref (b 0)), (1, .int (iN (c)))] [.int (iN (Ct.g N (c + 1) - Ct.g N c))]
    show Wx X 0 0 (WX X.γ b F N M P hp sd) 18 [(0, .ref (b 0)), (1, .int (iN (c)))] [.int (iN (Ct.g N (c + 1) - Ct.g N c))]
    refine x_goto C 23 (by decide) dX11_rise_18 ?_
    exact hret _ _ _ _ dX11_rise_23 rfl ⟨(by omega), ⟨(Ct.wa N), (Ct.wa P), _, _, rfl⟩⟩
end HXCai
