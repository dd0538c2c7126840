section HXCaf
theorem in_X11_days_X11 : ∀ w ∈ u_ws RX11 TX11 6, w ∈ wsX11_days := by decide +kernel
theorem ok_X11_days : okY yX11_days 1 := by decide +kernel
def rmX11_days : Room := { frames := 6, cells := 0, slots := 0, locals := 130 }
set_option maxRecDepth 100000 in
set_option maxHeartbeats 400000 in
theorem c_X11_days (l : Launch) (γ : GX) (b : Nat → Nat) (F : Nat → Sh) (N M P : Ct) (hp sd : Int) (hN : WFc N) (hF : ∀ t : Nat, t < 8 → WFs (F t)) (m : Int) (h0_ : -2147483648 ≤ m ∧ m < 2147483648) (h1_ : 0 ≤ Ct.dy N ∧ Ct.dy N ≤ 999) : MI l γ yX11_days wsX11_days rmX11_days [.ref (b 0), .int (iN (m))] (WX γ b F N M P hp sd) (fun r_ w_ => (((1 ≤ m ∧ m ≤ 60) ∧ Ct.dy N + m ≤ 999) ∧ r_ = Ct.allW (Ct.days N m.toNat) ∧ Wc γ b F ((Ct.days N m.toNat)) P hp w_) ∨ ((1 ≤ m ∧ m ≤ 60) ∧ ¬ (Ct.dy N + m ≤ 999) ∧ r_ = -3 ∧ Wc γ b F N P hp w_) ∨ (¬ (1 ≤ m ∧ m ≤ 60) ∧ r_ = -1 ∧ Wc γ b F N P hp w_)) 0 0 := by
  refine MI.of (cc := cX11_days) (maxL := 2) (rt := .int) RX11 rfl (by decide +kernel) rfl (Nat.le_of_ble_eq_true rfl) ?_
  intro X C hγ hl hnm hret
  subst hγ
  have hNn := WFc.n hN
  show Wx X 0 0 (WX X.γ b F N M P hp sd) 0 [(0, .ref (b 0)), (1, .int (iN (m)))] []
  refine x_iload_n C 1 rfl rfl dX11_days_0 ?_
  refine x_iconst (v := 0) C dX11_days_1 ?_
  refine x_bipush C (60) (by decide) dX11_days_2 ?_
  refine x_S_I C (As := [.int (iN (m)), .int (iN (1)), .int (iN (60))]) (rest := []) 3 gX11_days_X11_isWithin (c_X11_isWithin _ _ (WX X.γ b F N M P hp sd) (m) (1) (60) (by omega) (by omega) (by omega)) rfl ok_X11_isWithin rfl rfl rfl rfl dX11_days_4 (fun r w1 hp => ?_)
  obtain ⟨rfl, rfl⟩ := hp
  refine x_ifne_bz C 12 (by decide) dX11_days_7 (fun c_7 => ?_) (fun c_7 => ?_)
  · refine x_aload_n C 0 rfl rfl dX11_days_12 ?_
    refine x_get C in_X11_days_X11 0 rfl rfl 1 (by decide) (List.mem_of_getElem? (i := 1) rfl) rfl (v := .ref (b 27)) rfl dX11_days_13 ?_
    refine x_iload_n C 1 rfl rfl dX11_days_16 ?_
    refine x_V_I C (As := [.int (iN (m))]) (rest := []) 1 27 rfl rfl gX11_days_X1_passDaysAsTold rfl (MI.fN b F N M P hp sd (fun r Z => (((1 ≤ m ∧ m ≤ 60) ∧ Ct.dy N + m ≤ 999) ∧ r = 1 ∧ (Ct.days N (m).toNat) = Z) ∨ (¬ ((1 ≤ m ∧ m ≤ 60) ∧ Ct.dy N + m ≤ 999) ∧ r = 0 ∧ N = Z)) (c_X1_passDaysAsTold _ _ (adN b) N hN (m) (by omega) (by omega)) (fun r w h => h.elim (fun h => ⟨_, Or.inl ⟨h.1, h.2.1, rfl⟩, h.2.2⟩) (fun h => ⟨_, Or.inr ⟨h.1, h.2.1, rfl⟩, h.2.2⟩))) rfl ok_X1_passDaysAsTold rfl rfl rfl rfl dX11_days_17 (fun r w1 hp => ?_)
    rcases hp with ⟨_, (⟨hp1, rfl, rfl⟩ | ⟨hp1, rfl, rfl⟩), rfl⟩
    · refine x_if_eq C 33 (by decide) (by decide) dX11_days_20 (fun z => absurd z (by decide)) (fun _ => ?_)
      refine x_aload_n C 0 rfl rfl dX11_days_23 ?_
      refine x_get C in_X11_days_X11 0 rfl rfl 1 (by decide) (List.mem_of_getElem? (i := 1) rfl) rfl (v := .ref (b 27)) rfl dX11_days_24 ?_
      refine x_V_I C (As := []) (rest := []) 0 27 rfl rfl gX11_days_X1_allWater rfl (MI.fN b F (Ct.days N (m).toNat) M P hp sd (fun r Z => r = (Ct.allW (Ct.days N (m).toNat)) ∧ (Ct.set_wa (Ct.days N (m).toNat) (Ct.w (Ct.days N (m).toNat))) = Z) (c_X1_allWater _ _ (adN b) (Ct.days N (m).toNat) (Ct.days_wf hN (m).toNat)) (fun r w h => ⟨_, ⟨h.1, rfl⟩, h.2⟩)) rfl ok_X1_allWater rfl rfl rfl rfl dX11_days_27 (fun r w1 hp => ?_)
      obtain ⟨_, ⟨rfl, rfl⟩, rfl⟩ := hp
      show Wx X 0 0 (WX X.γ b F (Ct.set_wa (Ct.days N (m).toNat) (Ct.w (Ct.days N (m).toNat))) M P hp sd) 30 [(0, .ref (b 0)), (1, .int (iN (m)))] [.int (iN (Ct.allW (Ct.days N (m).toNat)))]
      show Wx X 0 0 (WX X.γ b F (Ct.set_wa (Ct.days N (m).toNat) (Ct.w (Ct.days N (m).toNat))) M P hp sd) 30 [(0, .ref (b 0)), (1, .int (iN (m)))] [.int (iN (Ct.allW (Ct.days N (m).toNat)))]
      have b93 := WFc.allW (Ct.days_wf hN (m).toNat)
      refine x_goto C 35 (by decide) dX11_days_30 ?_
      exact hret _ _ _ _ dX11_days_35 rfl (Or.inl ⟨(by omega), rfl, ⟨(Ct.w (Ct.days N (m).toNat)), (Ct.wa P), _, _, rfl⟩⟩)
    · refine x_if_eq C 33 (by decide) (by decide) dX11_days_20 (fun _ => ?_) (fun z => absurd z (by decide))
      refine x_bipush C (-3) (by decide) dX11_days_33 ?_
      exact hret _ _ _ _ dX11_days_35 rfl (Or.inr (Or.inl ⟨(by omega), (by omega), rfl, ⟨(Ct.wa N), (Ct.wa P), _, _, rfl⟩⟩))
  · refine x_iconst (v := 0) C dX11_days_10 ?_
    exact hret _ _ _ _ dX11_days_11 rfl (Or.inr (Or.inr ⟨(by omega), rfl, ⟨(Ct.wa N), (Ct.wa P), _, _, rfl⟩⟩))
end HXCaf
