section HXCal
theorem in_X11_groundThen_X11 : ∀ w ∈ u_ws RX11 TX11 6, w ∈ wsX11_groundThen := by decide +kernel
theorem ok_X11_groundThen : okY yX11_groundThen 2 := by decide +kernel
def rmX11_groundThen : Room := { frames := 6, cells := 0, slots := 0, locals := 130 }
set_option maxRecDepth 100000 in
set_option maxHeartbeats 400000 in
theorem c_X11_groundThen (l : Launch) (γ : GX) (b : Nat → Nat) (F : Nat → Sh) (N M P : Ct) (hp sd : Int) (hN : WFc N) (hF : ∀ t : Nat, t < 8 → WFs (F t)) (c : Int) (m : Int) (h0_ : -2147483648 ≤ c ∧ c < 2147483648) (h1_ : -2147483648 ≤ m ∧ m < 2147483648) : MI l γ yX11_groundThen wsX11_groundThen rmX11_groundThen [.ref (b 0), .int (iN (c)), .int (iN (m))] (WX γ b F N M P hp sd) (fun r_ w_ => r_ = q_then N c m ∧ Wc γ b F N P hp w_) 0 0 := by
  refine MI.of (cc := cX11_groundThen) (maxL := 3) (rt := .int) RX11 rfl (by decide +kernel) rfl (Nat.le_of_ble_eq_true rfl) ?_
  intro X C hγ hl hnm hret
  subst hγ
  have hNn := WFc.n hN
  show Wx X 0 0 (WX X.γ b F N M P hp sd) 0 [(0, .ref (b 0)), (1, .int (iN (c))), (2, .int (iN (m)))] []
  refine x_iload_n C 1 rfl rfl dX11_groundThen_0 ?_
  refine x_S_I C (As := [.int (iN (c))]) (rest := []) 1 gX11_groundThen_X11_isCellOrAll (c_X11_isCellOrAll _ _ (WX X.γ b F N M P hp sd) (c) (by omega)) rfl ok_X11_isCellOrAll rfl rfl rfl rfl dX11_groundThen_1 (fun r w1 hp => ?_)
  obtain ⟨rfl, rfl⟩ := hp
  refine x_ifeq_bz C 17 (by decide) dX11_groundThen_4 (fun c_4 => ?_) (fun c_4 => ?_)
  · refine x_iconst (v := 0) C dX11_groundThen_17 ?_
    exact hret _ _ _ _ dX11_groundThen_18 rfl ⟨(by unfold q_then; rw [if_neg (show ¬ ((-1 ≤ c ∧ c ≤ 14) ∧ 0 ≤ m ∧ m ≤ 60) by omega)]), ⟨(Ct.wa N), (Ct.wa P), _, _, rfl⟩⟩
  · refine x_iload_n C 2 rfl rfl dX11_groundThen_7 ?_
    refine x_iconst (v := 0) C dX11_groundThen_8 ?_
    refine x_bipush C (60) (by decide) dX11_groundThen_9 ?_
    refine x_S_I C (As := [.int (iN (m)), .int (iN (0)), .int (iN (60))]) (rest := []) 3 gX11_groundThen_X11_isWithin (c_X11_isWithin _ _ (WX X.γ b F N M P hp sd) (m) (0) (60) (by omega) (by omega) (by omega)) rfl ok_X11_isWithin rfl rfl rfl rfl dX11_groundThen_11 (fun r w1 hp => ?_)
    obtain ⟨rfl, rfl⟩ := hp
    refine x_ifne_bz C 19 (by decide) dX11_groundThen_14 (fun c_14 => ?_) (fun c_14 => ?_)
    · refine x_aload_n C 0 rfl rfl dX11_groundThen_19 ?_
      refine x_iload_n C 2 rfl rfl dX11_groundThen_20 ?_
      refine x_V_V C (As := [.int (iN (m))]) (rest := []) 1 0 rfl rfl gX11_groundThen_X11_thinkDaysOn rfl (c_X11_thinkDaysOn _ _ b F N M P hp sd hN hF (m) (by omega)) rfl ok_X11_thinkDaysOn rfl rfl rfl rfl dX11_groundThen_21 (fun w1 hp => ?_)
      obtain rfl := hp
      refine x_iload_n C 1 rfl rfl dX11_groundThen_24 ?_
      refine x_S_I C (As := [.int (iN (c))]) (rest := []) 1 gX11_groundThen_X11_isCell (c_X11_isCell _ _ (WX X.γ b F N (Ct.set_wa (Ct.days N (m).toNat) (Ct.wa M)) P hp sd) (c) (by omega)) rfl ok_X11_isCell rfl rfl rfl rfl dX11_groundThen_25 (fun r w1 hp => ?_)
      obtain ⟨rfl, rfl⟩ := hp
      refine x_ifeq_bz C 42 (by decide) dX11_groundThen_28 (fun c_28 => ?_) (fun c_28 => ?_)
      · refine x_aload_n C 0 rfl rfl dX11_groundThen_42 ?_
        refine x_get C in_X11_groundThen_X11 0 rfl rfl 2 (by decide) (List.mem_of_getElem? (i := 1) rfl) rfl (v := .ref (b 38)) rfl dX11_groundThen_43 ?_
        refine x_V_I C (As := []) (rest := []) 0 38 rfl rfl gX11_groundThen_X1_allWater rfl (MI.fM b F N (Ct.set_wa (Ct.days N (m).toNat) (Ct.wa M)) P hp sd (fun r Z => r = (Ct.allW (Ct.days N (m).toNat)) ∧ (Ct.set_wa (Ct.days N (m).toNat) (Ct.w (Ct.set_wa (Ct.days N (m).toNat) (Ct.wa M)))) = Z) (c_X1_allWater _ _ (adM b) (Ct.set_wa (Ct.days N (m).toNat) (Ct.wa M)) (Ct.days_wf hN (m).toNat)) (fun r w h => ⟨_, ⟨h.1, rfl⟩, h.2⟩)) rfl ok_X1_allWater rfl rfl rfl rfl dX11_groundThen_46 (fun r w1 hp => ?_)
        obtain ⟨_, ⟨rfl, rfl⟩, rfl⟩ := hp
        show Wx X 0 0 (WX X.γ b F N (Ct.set_wa (Ct.days N (m).toNat) (Ct.w (Ct.set_wa (Ct.days N (m).toNat) (Ct.wa M)))) P hp sd) 49 [(0, .ref (b 0)), (1, .int (iN (c))), (2, .int (iN (m)))] [.int (iN (Ct.allW (Ct.days N (m).toNat)))]
        show Wx X 0 0 (WX X.γ b F N (Ct.set_wa (Ct.days N (m).toNat) (Ct.w (Ct.set_wa (Ct.days N (m).toNat) (Ct.wa M)))) P hp sd) 49 [(0, .ref (b 0)), (1, .int (iN (c))), (2, .int (iN (m)))] [.int (iN (Ct.allW (Ct.days N (m).toNat)))]
        have b102 := WFc.allW (Ct.days_wf hN (m).toNat)
        exact hret _ _ _ _ dX11_groundThen_49 rfl ⟨(by unfold q_then; rw [if_pos (show (-1 ≤ c ∧ c ≤ 14) ∧ 0 ≤ m ∧ m ≤ 60 by omega), if_neg (show ¬ 0 ≤ c by omega)]), ⟨(Ct.wa N), (Ct.wa P), _, _, rfl⟩⟩
      · refine x_aload_n C 0 rfl rfl dX11_groundThen_31 ?_
        refine x_get C in_X11_groundThen_X11 0 rfl rfl 2 (by decide) (List.mem_of_getElem? (i := 1) rfl) rfl (v := .ref (b 38)) rfl dX11_groundThen_32 ?_
        refine x_iload_n C 1 rfl rfl dX11_groundThen_35 ?_
        refine x_V_I C (As := [.int (iN (c))]) (rest := []) 1 38 rfl rfl gX11_groundThen_X1_level rfl (MI.fM b F N (Ct.set_wa (Ct.days N (m).toNat) (Ct.wa M)) P hp sd (fun r Z => r = (Ct.g (Ct.days N (m).toNat) c) ∧ (Ct.set_wa (Ct.days N (m).toNat) (Ct.wa M)) = Z) (c_X1_level _ _ (adM b) (Ct.set_wa (Ct.days N (m).toNat) (Ct.wa M)) (Ct.days_wf hN (m).toNat) (c) (by omega)) (fun r w h => ⟨_, ⟨h.1, rfl⟩, h.2⟩)) rfl ok_X1_level rfl rfl rfl rfl dX11_groundThen_36 (fun r w1 hp => ?_)
        obtain ⟨_, ⟨rfl, rfl⟩, rfl⟩ := hp
        show Wx X 0 0 (WX X.γ b F N (Ct.set_wa (Ct.days N (m).toNat) (Ct.wa M)) P hp sd) 39 [(0, .ref (b 0)), (1, .int (iN (c))), (2, .int (iN (m)))] [.int (iN (Ct.g (Ct.days N (m).toNat) c))]
        show Wx X 0 0 (WX X.γ b F N (Ct.set_wa (Ct.days N (m).toNat) (Ct.wa M)) P hp sd) 39 [(0, .ref (b 0)), (1, .int (iN (c))), (2, .int (iN (m)))] [.int (iN (Ct.g (Ct.days N (m).toNat) c))]
        have b103 := WFc.g (Ct.days_wf hN (m).toNat) (c)
        refine x_goto C 49 (by decide) dX11_groundThen_39 ?_
        exact hret _ _ _ _ dX11_groundThen_49 rfl ⟨(by unfold q_then; rw [if_pos (show (-1 ≤ c ∧ c ≤ 14) ∧ 0 ≤ m ∧ m ≤ 60 by omega), if_pos (show 0 ≤ c by omega)]), ⟨(Ct.wa N), (Ct.wa P), _, _, rfl⟩⟩
    · refine x_iconst (v := 0) C dX11_groundThen_17 ?_
      exact hret _ _ _ _ dX11_groundThen_18 rfl ⟨(by unfold q_then; rw [if_neg (show ¬ ((-1 ≤ c ∧ c ≤ 14) ∧ 0 ≤ m ∧ m ≤ 60) by omega)]), ⟨(Ct.wa N), (Ct.wa P), _, _, rfl⟩⟩
theorem fstz_q {f : Nat → Int} {k : Nat} (h : fstz f k = -4) (h1 : f k ≠ 0) : fstz f (k + 1) = -4 := by
  simp only [fstz]
  rw [h, if_pos (by decide), if_neg h1]
end HXCal
