section HXCak
theorem in_X11_behind_X1 : ∀ w ∈ u_ws RX1 TX1 13, w ∈ wsX11_behind := by decide +kernel
theorem in_X11_behind_X11 : ∀ w ∈ u_ws RX11 TX11 6, w ∈ wsX11_behind := by decide +kernel
theorem ok_X11_behind : okY yX11_behind 2 := by decide +kernel
def rmX11_behind : Room := { frames := 6, cells := 0, slots := 0, locals := 130 }
set_option maxRecDepth 100000 in
set_option maxHeartbeats 400000 in
theorem c_X11_behind (l : Launch) (γ : GX) (b : Nat → Nat) (F : Nat → Sh) (N M P : Ct) (hp sd : Int) (hN : WFc N) (hF : ∀ t : Nat, t < 8 → WFs (F t)) (i : Int) (m : Int) (h0_ : -2147483648 ≤ i ∧ i < 2147483648) (h1_ : -2147483648 ≤ m ∧ m < 2147483648) : MI l γ yX11_behind wsX11_behind rmX11_behind [.ref (b 0), .int (iN (i)), .int (iN (m))] (WX γ b F N M P hp sd) (fun r_ w_ => r_ = q_behind N i m ∧ Wc γ b F N P hp w_) 0 0 := by
  refine MI.of (cc := cX11_behind) (maxL := 3) (rt := .int) RX11 rfl (by decide +kernel) rfl (Nat.le_of_ble_eq_true rfl) ?_
  intro X C hγ hl hnm hret
  subst hγ
  have hNn := WFc.n hN
  show Wx X 0 0 (WX X.γ b F N M P hp sd) 0 [(0, .ref (b 0)), (1, .int (iN (i))), (2, .int (iN (m)))] []
  refine x_aload_n C 0 rfl rfl dX11_behind_0 ?_
  refine x_get C in_X11_behind_X11 0 rfl rfl 1 (by decide) (List.mem_of_getElem? (i := 1) rfl) rfl (v := .ref (b 27)) rfl dX11_behind_1 ?_
  refine x_iload_n C 1 rfl rfl dX11_behind_4 ?_
  refine x_V_I C (As := [.int (iN (i))]) (rest := []) 1 27 rfl rfl gX11_behind_X1_has rfl (MI.fN b F N M P hp sd (fun r Z => r = (bz (0 ≤ i ∧ i ≤ Ct.n N - 1)) ∧ N = Z) (c_X1_has _ _ (adN b) N hN (i) (by omega)) (fun r w h => ⟨_, ⟨h.1, rfl⟩, h.2⟩)) rfl ok_X1_has rfl rfl rfl rfl dX11_behind_5 (fun r w1 hp => ?_)
  obtain ⟨_, ⟨rfl, rfl⟩, rfl⟩ := hp
  show Wx X 0 0 (WX X.γ b F N M P hp sd) 8 [(0, .ref (b 0)), (1, .int (iN (i))), (2, .int (iN (m)))] [.int (iN (bz (0 ≤ i ∧ i ≤ Ct.n N - 1)))]
  refine x_ifeq_bz C 21 (by decide) dX11_behind_8 (fun c_8 => ?_) (fun c_8 => ?_)
  · refine x_iconst (v := 0) C dX11_behind_21 ?_
    exact hret _ _ _ _ dX11_behind_22 rfl ⟨(by unfold q_behind; rw [if_neg (show ¬ (q_one N i ∧ 0 ≤ m ∧ m ≤ 60) from (show ¬ ((0 ≤ i ∧ i ≤ Ct.n N - 1) ∧ 0 ≤ m ∧ m ≤ 60) by omega))]), ⟨(Ct.wa N), (Ct.wa P), _, _, rfl⟩⟩
  · refine x_iload_n C 2 rfl rfl dX11_behind_11 ?_
    refine x_iconst (v := 0) C dX11_behind_12 ?_
    refine x_bipush C (60) (by decide) dX11_behind_13 ?_
    refine x_S_I C (As := [.int (iN (m)), .int (iN (0)), .int (iN (60))]) (rest := []) 3 gX11_behind_X11_isWithin (c_X11_isWithin _ _ (WX X.γ b F N M P hp sd) (m) (0) (60) (by omega) (by omega) (by omega)) rfl ok_X11_isWithin rfl rfl rfl rfl dX11_behind_15 (fun r w1 hp => ?_)
    obtain ⟨rfl, rfl⟩ := hp
    refine x_ifne_bz C 23 (by decide) dX11_behind_18 (fun c_18 => ?_) (fun c_18 => ?_)
    · refine x_aload_n C 0 rfl rfl dX11_behind_23 ?_
      refine x_iload_n C 2 rfl rfl dX11_behind_24 ?_
      refine x_V_V C (As := [.int (iN (m))]) (rest := []) 1 0 rfl rfl gX11_behind_X11_thinkDaysOn rfl (c_X11_thinkDaysOn _ _ b F N M P hp sd hN hF (m) (by omega)) rfl ok_X11_thinkDaysOn rfl rfl rfl rfl dX11_behind_25 (fun w1 hp => ?_)
      obtain rfl := hp
      refine x_aload_n C 0 rfl rfl dX11_behind_28 ?_
      refine x_get C in_X11_behind_X11 0 rfl rfl 2 (by decide) (List.mem_of_getElem? (i := 2) rfl) rfl (v := .ref (b 38)) rfl dX11_behind_29 ?_
      refine x_get C in_X11_behind_X1 38 rfl rfl 7 (by decide) (List.mem_of_getElem? (i := 3) rfl) rfl (v := .ref (b 43)) rfl dX11_behind_32 ?_
      refine x_iload_n C 1 rfl rfl dX11_behind_35 ?_
      refine x_iaload C (f := Ct.po (Ct.days N (m).toNat)) 43 rfl (by omega) rfl dX11_behind_36 ?_
      have b101 := WFc.po (Ct.days_wf hN (m).toNat) (i)
      exact hret _ _ _ _ dX11_behind_37 rfl ⟨(by unfold q_behind; rw [if_pos (show q_one N i ∧ 0 ≤ m ∧ m ≤ 60 from (show (0 ≤ i ∧ i ≤ Ct.n N - 1) ∧ 0 ≤ m ∧ m ≤ 60 by omega))]), ⟨(Ct.wa N), (Ct.wa P), _, _, rfl⟩⟩
    · refine x_iconst (v := 0) C dX11_behind_21 ?_
      exact hret _ _ _ _ dX11_behind_22 rfl ⟨(by unfold q_behind; rw [if_neg (show ¬ (q_one N i ∧ 0 ≤ m ∧ m ≤ 60) from (show ¬ ((0 ≤ i ∧ i ≤ Ct.n N - 1) ∧ 0 ≤ m ∧ m ≤ 60) by omega))]), ⟨(Ct.wa N), (Ct.wa P), _, _, rfl⟩⟩
end HXCak
