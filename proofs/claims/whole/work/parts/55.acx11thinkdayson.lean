section HXAac
theorem in_X11_thinkDaysOn_X11 : ∀ w ∈ u_ws RX11 TX11 6, w ∈ wsX11_thinkDaysOn := by decide +kernel
theorem ok_X11_thinkDaysOn : okY yX11_thinkDaysOn 1 := by decide +kernel
def rmX11_thinkDaysOn : Room := { frames := 5, cells := 0, slots := 0, locals := 109 }
set_option maxRecDepth 100000 in
set_option maxHeartbeats 400000 in
theorem c_X11_thinkDaysOn (l : Launch) (γ : GX) (b : Nat → Nat) (F : Nat → Sh) (N M P : Ct) (hp sd : Int) (hN : WFc N) (hF : ∀ t : Nat, t < 8 → WFs (F t)) (m : Int) (h0_ : 0 ≤ m ∧ m < 2147483648) : MV l γ yX11_thinkDaysOn wsX11_thinkDaysOn rmX11_thinkDaysOn [.ref (b 0), .int (iN (m))] (WX γ b F N M P hp sd) (fun w_ => w_ = WX γ b F N (Ct.set_wa (Ct.days N m.toNat) (Ct.wa M)) P hp sd) 0 0 := by
  refine MV.of (cc := cX11_thinkDaysOn) (maxL := 2) RX11 rfl (by decide +kernel) rfl (Nat.le_of_ble_eq_true rfl) ?_
  intro X C hγ hl hnm hret
  subst hγ
  have hNn := WFc.n hN
  show Wx X 0 0 (WX X.γ b F N M P hp sd) 0 [(0, .ref (b 0)), (1, .int (iN (m)))] []
  refine x_aload_n C 0 rfl rfl dX11_thinkDaysOn_0 ?_
  refine x_get C in_X11_thinkDaysOn_X11 0 rfl rfl 2 (by decide) (List.mem_of_getElem? (i := 1) rfl) rfl (v := .ref (b 38)) rfl dX11_thinkDaysOn_1 ?_
  refine x_aload_n C 0 rfl rfl dX11_thinkDaysOn_4 ?_
  refine x_get C in_X11_thinkDaysOn_X11 0 rfl rfl 1 (by decide) (List.mem_of_getElem? (i := 2) rfl) rfl (v := .ref (b 27)) rfl dX11_thinkDaysOn_5 ?_
  refine x_V_V C (As := [.ref (b 27)]) (rest := []) 1 38 rfl rfl gX11_thinkDaysOn_X1_become rfl (MV.bMN b F N M P hp sd (fun Z => Z = Ct.set_wa N (Ct.wa M)) (c_X1_become _ _ (adM b) (adN b) M N) (fun w h => ⟨_, rfl, h⟩)) rfl ok_X1_become rfl rfl rfl rfl dX11_thinkDaysOn_8 (fun w1 hp => ?_)
  obtain ⟨_, rfl, rfl⟩ := hp
  refine Wx.eqW (ws' := (WX X.γ b F N (Ct.set_wa N (Ct.wa M)) P hp sd)) rfl ?_
  refine x_aload_n C 0 rfl rfl dX11_thinkDaysOn_11 ?_
  refine x_get C in_X11_thinkDaysOn_X11 0 rfl rfl 2 (by decide) (List.mem_of_getElem? (i := 1) rfl) rfl (v := .ref (b 38)) rfl dX11_thinkDaysOn_12 ?_
  refine x_iload_n C 1 rfl rfl dX11_thinkDaysOn_15 ?_
  refine x_V_V C (As := [.int (iN (m))]) (rest := []) 1 38 rfl rfl gX11_thinkDaysOn_X1_passDays rfl (MV.fM b F N (Ct.set_wa N (Ct.wa M)) P hp sd (fun Z => (Ct.days (Ct.set_wa N (Ct.wa M)) (m).toNat) = Z) (c_X1_passDays _ _ (adM b) (Ct.set_wa N (Ct.wa M)) hN (m) (by omega)) (fun w h => ⟨_, rfl, h⟩)) rfl ok_X1_passDays rfl rfl rfl rfl dX11_thinkDaysOn_16 (fun w1 hp => ?_)
  obtain ⟨_, rfl, rfl⟩ := hp
  refine Wx.eqW (ws' := (WX X.γ b F N (Ct.set_wa (Ct.days N (m).toNat) (Ct.wa M)) P hp sd)) (by rw [← days_wa]; try rfl) ?_
  exact hret _ _ _ dX11_thinkDaysOn_19 rfl
end HXAac
