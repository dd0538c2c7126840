section HXGah
theorem in_X11_cost_X1 : ∀ w ∈ u_ws RX1 TX1 13, w ∈ wsX11_cost := by decide +kernel
theorem in_X11_cost_X11 : ∀ w ∈ u_ws RX11 TX11 6, w ∈ wsX11_cost := by decide +kernel
theorem in_X11_cost_X5 : ∀ w ∈ u_ws RX5 TX5 6, w ∈ wsX11_cost := by decide +kernel
theorem ok_X11_cost : okY yX11_cost 1 := by decide +kernel
def rmX11_cost : Room := { frames := 3, cells := 0, slots := 0, locals := 63 }
set_option maxRecDepth 100000 in
set_option maxHeartbeats 400000 in
theorem c_X11_cost (l : Launch) (γ : GX) (b : Nat → Nat) (F : Nat → Sh) (N M P : Ct) (hp sd : Int) (hN : WFc N) (hF : ∀ t : Nat, t < 8 → WFs (F t)) (d : Int) (h0_ : -2147483648 ≤ d ∧ d < 2147483648) : MI l γ yX11_cost wsX11_cost rmX11_cost [.ref (b 0), .int (iN (d))] (WX γ b F N M P hp sd) (fun r_ w_ => r_ = q_wr d (Sh.hd (F d.toNat)) 1 (coF (Sh.kd (F d.toNat)) (Sh.fg (F d.toNat))) ∧ Wc γ b F N P hp w_) 0 0 := by
  refine MI.of (cc := cX11_cost) (maxL := 3) (rt := .int) RX11 rfl (by decide +kernel) rfl (Nat.le_of_ble_eq_true rfl) ?_
  intro X C hγ hl hnm hret
  subst hγ
  have hNn := WFc.n hN
  show Wx X 0 0 (WX X.γ b F N M P hp sd) 0 [(0, .ref (b 0)), (1, .int (iN (d)))] []
  refine x_aload_n C 0 rfl rfl dX11_cost_0 ?_
  refine x_iload_n C 1 rfl rfl dX11_cost_1 ?_
  refine x_V_I C (As := [.int (iN (d))]) (rest := []) 1 0 rfl rfl gX11_cost_X11_kindRefusal rfl (c_X11_kindRefusal _ _ b F N M P hp sd hN hF (d) (by omega)) rfl ok_X11_kindRefusal rfl rfl rfl rfl dX11_cost_2 (fun r w1 hp => ?_)
  obtain ⟨rfl, rfl⟩ := hp
  show Wx X 0 0 (WX X.γ b F N M P hp sd) 5 [(0, .ref (b 0)), (1, .int (iN (d)))] [.int (iN (if 0 ≤ d ∧ d ≤ 7 then (if Sh.hd (F d.toNat) = 0 then -11 else if Sh.hd (F d.toNat) = 1 then 0 else -12) else -1))]
  refine x_istore_n C [(2, .int (iN (if 0 ≤ d ∧ d ≤ 7 then (if Sh.hd (F d.toNat) = 0 then -11 else if Sh.hd (F d.toNat) = 1 then 0 else -12) else -1))), (0, .ref (b 0)), (1, .int (iN (d)))] rfl (by decide) rfl dX11_cost_5 ?_
  refine x_iload_n C 0 rfl rfl dX11_cost_6 ?_
  refine x_if_ge C 12 (by decide) (by omega) dX11_cost_7 (fun c_7 => ?_) (fun c_7 => ?_)
  · have hFd := hF d.toNat (by omega)
    have hFk : 0 ≤ Sh.kd (F d.toNat) ∧ Sh.kd (F d.toNat) ≤ 7 := hFd.2.1
    have hFf : 0 ≤ Sh.fg (F d.toNat) ∧ Sh.fg (F d.toNat) ≤ 9 := hFd.2.2.1
    refine x_aload_n C 1 rfl rfl dX11_cost_12 ?_
    refine x_get C in_X11_cost_X11 0 rfl rfl 1 (by decide) (List.mem_of_getElem? (i := 1) rfl) rfl (v := .ref (b 27)) rfl dX11_cost_13 ?_
    refine x_get C in_X11_cost_X1 27 rfl rfl 0 (by decide) (List.mem_of_getElem? (i := 2) rfl) rfl (v := .ref (b 18)) rfl dX11_cost_16 ?_
    refine x_aload_n C 1 rfl rfl dX11_cost_19 ?_
    refine x_get C in_X11_cost_X11 0 rfl rfl 0 (by decide) (List.mem_of_getElem? (i := 3) rfl) rfl (v := .ref (b 1)) rfl dX11_cost_20 ?_
    refine x_iload_n C 2 rfl rfl dX11_cost_23 ?_
    refine x_aaload C (f := fun k => some (b (2 + 2 * k.toNat))) (b := b (2 + 2 * d.toNat)) 1 rfl (by omega) rfl rfl dX11_cost_24 ?_
    refine x_get C in_X11_cost_X5 (2 + 2 * d.toNat) (WX_so _ _ _ _ _ _ _ (show d.toNat < 8 by omega)) rfl 1 (by decide) (List.mem_of_getElem? (i := 4) rfl) rfl (v := .int (iN (Sh.kd (F d.toNat)))) rfl dX11_cost_25 ?_
    refine x_aaloadW C (f := fun k => some (b (19 + k.toNat))) (b := b (19 + (Sh.kd (F d.toNat)).toNat)) 18 rfl (by omega) rfl rfl dX11_cost_28 ?_
    refine x_aload_n C 1 rfl rfl dX11_cost_29 ?_
    refine x_get C in_X11_cost_X11 0 rfl rfl 0 (by decide) (List.mem_of_getElem? (i := 3) rfl) rfl (v := .ref (b 1)) rfl dX11_cost_30 ?_
    refine x_iload_n C 2 rfl rfl dX11_cost_33 ?_
    refine x_aaload C (f := fun k => some (b (2 + 2 * k.toNat))) (b := b (2 + 2 * d.toNat)) 1 rfl (by omega) rfl rfl dX11_cost_34 ?_
    refine x_get C in_X11_cost_X5 (2 + 2 * d.toNat) (WX_so _ _ _ _ _ _ _ (show d.toNat < 8 by omega)) rfl 2 (by decide) (List.mem_of_getElem? (i := 5) rfl) rfl (v := .int (iN (Sh.fg (F d.toNat)))) rfl dX11_cost_35 ?_
    have J38 : Wx X 0 0 (WX X.γ b F N M P hp sd) 41 [(2, .int (iN (if 0 ≤ d ∧ d ≤ 7 then (if Sh.hd (F d.toNat) = 0 then -11 else if Sh.hd (F d.toNat) = 1 then 0 else -12) else -1))), (0, .ref (b 0)), (1, .int (iN (d)))] [.int (iN (coF (Sh.kd (F d.toNat)) (Sh.fg (F d.toNat))))] → Wx X 0 0 (WX X.γ b F N M P hp sd) 38 [(2, .int (iN (if 0 ≤ d ∧ d ≤ 7 then (if Sh.hd (F d.toNat) = 0 then -11 else if Sh.hd (F d.toNat) = 1 then 0 else -12) else -1))), (0, .ref (b 0)), (1, .int (iN (d)))] [.int (iN (Sh.fg (F d.toNat))), .ref (b (19 + (Sh.kd (F d.toNat)).toNat))] := by
      intro kk
      have hk : Sh.kd (F d.toNat) = 0 ∨ Sh.kd (F d.toNat) = 1 ∨ Sh.kd (F d.toNat) = 2 ∨ Sh.kd (F d.toNat) = 3 ∨ Sh.kd (F d.toNat) = 4 ∨ Sh.kd (F d.toNat) = 5 ∨ Sh.kd (F d.toNat) = 6 ∨ Sh.kd (F d.toNat) = 7 := by omega
      rcases hk with hk | hk | hk | hk | hk | hk | hk | hk
      · have e : coF (Sh.kd (F d.toNat)) (Sh.fg (F d.toNat)) = 3 := by rw [hk]; rfl
        rw [e] at kk
        refine x_V_I C (As := [.int (iN (Sh.fg (F d.toNat)))]) (rest := []) (b := b (19 + (Sh.kd (F d.toNat)).toNat)) 1 19 (fs := []) (ci := 8) (by rw [hk]; rfl) rfl gX11_cost_X9_price rfl (c_X9_price _ _ (WX X.γ b F N M P hp sd) (q0 := 19) (b := b (19 + (Sh.kd (F d.toNat)).toNat)) (ci := 8) (Cn := RX9) (T := TX9) (N := 0) (fs := []) (by rw [hk]; rfl) rfl (Sh.fg (F d.toNat)) (by omega)) rfl ok_X9_price rfl rfl rfl rfl dX11_cost_38 (fun r w1 hp => ?_)
        obtain ⟨rfl, rfl⟩ := hp
        exact kk
      · have e : coF (Sh.kd (F d.toNat)) (Sh.fg (F d.toNat)) = 3 + (Sh.fg (F d.toNat)) := by rw [hk]; rfl
        rw [e] at kk
        refine x_O_I C (As := [.int (iN (Sh.fg (F d.toNat)))]) (rest := []) (b := b (19 + (Sh.kd (F d.toNat)).toNat)) 1 20 (fs := []) (ci := 4) (by rw [hk]; rfl) rfl gX11_cost_X4_price_u313X4 (h0 := (List.mem_of_getElem? (i := 35) rfl)) (by decide +kernel) (c_X4_price _ _ (WX X.γ b F N M P hp sd) (q0 := 20) (b := b (19 + (Sh.kd (F d.toNat)).toNat)) (ci := 4) (Cn := RX4) (T := TX4) (N := 0) (fs := []) (by rw [hk]; rfl) rfl (Sh.fg (F d.toNat)) (by omega)) rfl ok_X4_price rfl rfl rfl rfl dX11_cost_38 (fun r w1 hp => ?_)
        obtain ⟨rfl, rfl⟩ := hp
        exact kk
      · have e : coF (Sh.kd (F d.toNat)) (Sh.fg (F d.toNat)) = 2 := by rw [hk]; rfl
        rw [e] at kk
        refine x_O_I C (As := [.int (iN (Sh.fg (F d.toNat)))]) (rest := []) (b := b (19 + (Sh.kd (F d.toNat)).toNat)) 1 21 (fs := []) (ci := 3) (by rw [hk]; rfl) rfl gX11_cost_X3_price_u313X3 (h0 := (List.mem_of_getElem? (i := 35) rfl)) (by decide +kernel) (c_X3_price _ _ (WX X.γ b F N M P hp sd) (q0 := 21) (b := b (19 + (Sh.kd (F d.toNat)).toNat)) (ci := 3) (Cn := RX3) (T := TX3) (N := 0) (fs := []) (by rw [hk]; rfl) rfl (Sh.fg (F d.toNat)) (by omega)) rfl ok_X3_price rfl rfl rfl rfl dX11_cost_38 (fun r w1 hp => ?_)
        obtain ⟨rfl, rfl⟩ := hp
        exact kk
      · have e : coF (Sh.kd (F d.toNat)) (Sh.fg (F d.toNat)) = 0 := by rw [hk]; rfl
        rw [e] at kk
        refine x_O_I C (As := [.int (iN (Sh.fg (F d.toNat)))]) (rest := []) (b := b (19 + (Sh.kd (F d.toNat)).toNat)) 1 22 (fs := []) (ci := 6) (by rw [hk]; rfl) rfl gX11_cost_X6_price_u313X6 (h0 := (List.mem_of_getElem? (i := 35) rfl)) (by decide +kernel) (c_X6_price _ _ (WX X.γ b F N M P hp sd) (q0 := 22) (b := b (19 + (Sh.kd (F d.toNat)).toNat)) (ci := 6) (Cn := RX6) (T := TX6) (N := 0) (fs := []) (by rw [hk]; rfl) rfl (Sh.fg (F d.toNat)) (by omega)) rfl ok_X6_price rfl rfl rfl rfl dX11_cost_38 (fun r w1 hp => ?_)
        obtain ⟨rfl, rfl⟩ := hp
        exact kk
      · have e : coF (Sh.kd (F d.toNat)) (Sh.fg (F d.toNat)) = 9 := by rw [hk]; rfl
        rw [e] at kk
        refine x_O_I C (As := [.int (iN (Sh.fg (F d.toNat)))]) (rest := []) (b := b (19 + (Sh.kd (F d.toNat)).toNat)) 1 23 (fs := []) (ci := 2) (by rw [hk]; rfl) rfl gX11_cost_X2_price_u313X2 (h0 := (List.mem_of_getElem? (i := 35) rfl)) (by decide +kernel) (c_X2_price _ _ (WX X.γ b F N M P hp sd) (q0 := 23) (b := b (19 + (Sh.kd (F d.toNat)).toNat)) (ci := 2) (Cn := RX2) (T := TX2) (N := 0) (fs := []) (by rw [hk]; rfl) rfl (Sh.fg (F d.toNat)) (by omega)) rfl ok_X2_price rfl rfl rfl rfl dX11_cost_38 (fun r w1 hp => ?_)
        obtain ⟨rfl, rfl⟩ := hp
        exact kk
      · have e : coF (Sh.kd (F d.toNat)) (Sh.fg (F d.toNat)) = 2 * (3 + (Sh.fg (F d.toNat))) := by rw [hk]; rfl
        rw [e] at kk
        refine x_O_I C (As := [.int (iN (Sh.fg (F d.toNat)))]) (rest := []) (b := b (19 + (Sh.kd (F d.toNat)).toNat)) 1 24 (fs := []) (ci := 0) (by rw [hk]; rfl) rfl gX11_cost_X0_price_u313X0 (h0 := (List.mem_of_getElem? (i := 35) rfl)) (by decide +kernel) (c_X0_price _ _ (WX X.γ b F N M P hp sd) (q0 := 24) (b := b (19 + (Sh.kd (F d.toNat)).toNat)) (ci := 0) (Cn := RX0) (T := TX0) (N := 0) (fs := []) (by rw [hk]; rfl) rfl (Sh.fg (F d.toNat)) (by omega)) rfl ok_X0_price rfl rfl rfl rfl dX11_cost_38 (fun r w1 hp => ?_)
        obtain ⟨rfl, rfl⟩ := hp
        exact kk
      · have e : coF (Sh.kd (F d.toNat)) (Sh.fg (F d.toNat)) = 2 := by rw [hk]; rfl
        rw [e] at kk
        refine x_O_I C (As := [.int (iN (Sh.fg (F d.toNat)))]) (rest := []) (b := b (19 + (Sh.kd (F d.toNat)).toNat)) 1 25 (fs := []) (ci := 7) (by rw [hk]; rfl) rfl gX11_cost_X3_price_u313X8 (h0 := (List.mem_of_getElem? (i := 35) rfl)) (by decide +kernel) (c_X3_price _ _ (WX X.γ b F N M P hp sd) (q0 := 25) (b := b (19 + (Sh.kd (F d.toNat)).toNat)) (ci := 7) (Cn := RX8) (T := TX8) (N := 0) (fs := []) (by rw [hk]; rfl) rfl (Sh.fg (F d.toNat)) (by omega)) rfl ok_X3_price rfl rfl rfl rfl dX11_cost_38 (fun r w1 hp => ?_)
        obtain ⟨rfl, rfl⟩ := hp
        exact kk
      · have e : coF (Sh.kd (F d.toNat)) (Sh.fg (F d.toNat)) = 3 + (Sh.fg (F d.toNat)) := by rw [hk]; rfl
        rw [e] at kk
        refine x_O_I C (As := [.int (iN (Sh.fg (F d.toNat)))]) (rest := []) (b := b (19 + (Sh.kd (F d.toNat)).toNat)) 1 26 (fs := []) (ci := 9) (by rw [hk]; rfl) rfl gX11_cost_X10_price_u313X10 (h0 := (List.mem_of_getElem? (i := 35) rfl)) (by decide +kernel) (c_X10_price _ _ (WX X.γ b F N M P hp sd) (q0 := 26) (b := b (19 + (Sh.kd (F d.toNat)).toNat)) (ci := 9) (Cn := RX10) (T := TX10) (N := 0) (fs := []) (by rw [hk]; rfl) rfl (Sh.fg (F d.toNat)) (by omega)) rfl ok_X10_price rfl rfl rfl rfl dX11_cost_38 (fun r w1 hp => ?_)
        obtain ⟨rfl, rfl⟩ := hp
        exact kk
    refine J38 ?_
    exact hret _ _ _ _ dX11_cost_41 rfl ⟨(by unfold q_wr; rw [if_pos (show 0 ≤ d ∧ d ≤ 7 by omega), if_neg (show ¬ Sh.hd (F d.toNat) = 0 by omega), if_pos (show Sh.hd (F d.toNat) = 1 by omega)]), ⟨(Ct.wa N), (Ct.wa P), _, _, rfl⟩⟩
  · refine x_iload_n C 0 rfl rfl dX11_cost_10 ?_
    exact hret _ _ _ _ dX11_cost_11 rfl ⟨(by unfold q_wr; omega), ⟨(Ct.wa N), (Ct.wa P), _, _, rfl⟩⟩
end HXGah
