section HXAad
theorem in_X11_getsThere_X11 : ∀ w ∈ u_ws RX11 TX11 6, w ∈ wsX11_getsThere := by decide +kernel
theorem ok_X11_getsThere : okY yX11_getsThere 3 := by decide +kernel
def rmX11_getsThere : Room := { frames := 4, cells := 0, slots := 0, locals := 90 }
set_option maxRecDepth 100000 in
set_option maxHeartbeats 400000 in
theorem c_X11_getsThere (l : Launch) (γ : GX) (b : Nat → Nat) (F : Nat → Sh) (N M P : Ct) (hp sd : Int) (hN : WFc N) (hF : ∀ t : Nat, t < 8 → WFs (F t)) (i : Int) (al : Int) (c : Int) (h0_ : 0 ≤ i ∧ i < 6) (h1_ : 0 ≤ al ∧ al < 2147483648) (h2_ : 0 ≤ c ∧ c ≤ 14) : MI l γ yX11_getsThere wsX11_getsThere rmX11_getsThere [.ref (b 0), .int (iN (i)), .int (iN (al)), .int (iN (c))] (WX γ b F N M P hp sd) (fun r_ w_ => r_ = Ct.wt N i al c (if c < Ct.po N i then -1 else 1) 15 (Ct.po N) ∧ ∃ M2, w_ = WX γ b F N M2 P hp sd) 0 0 := by
  refine MI.of (cc := cX11_getsThere) (maxL := 4) (rt := .boolean) RX11 rfl (by decide +kernel) rfl (Nat.le_of_ble_eq_true rfl) ?_
  intro X C hγ hl hnm hret
  subst hγ
  have hNn := WFc.n hN
  show Wx X 0 0 (WX X.γ b F N M P hp sd) 0 [(0, .ref (b 0)), (1, .int (iN (i))), (2, .int (iN (al))), (3, .int (iN (c)))] []
  refine x_aload_n C 0 rfl rfl dX11_getsThere_0 ?_
  refine x_get C in_X11_getsThere_X11 0 rfl rfl 2 (by decide) (List.mem_of_getElem? (i := 1) rfl) rfl (v := .ref (b 38)) rfl dX11_getsThere_1 ?_
  refine x_aload_n C 0 rfl rfl dX11_getsThere_4 ?_
  refine x_get C in_X11_getsThere_X11 0 rfl rfl 1 (by decide) (List.mem_of_getElem? (i := 2) rfl) rfl (v := .ref (b 27)) rfl dX11_getsThere_5 ?_
  refine x_V_V C (As := [.ref (b 27)]) (rest := []) 1 38 rfl rfl gX11_getsThere_X1_become rfl (MV.bMN b F N M P hp sd (fun Z => Z = Ct.set_wa N (Ct.wa M)) (c_X1_become _ _ (adM b) (adN b) M N) (fun w h => ⟨_, rfl, h⟩)) rfl ok_X1_become rfl rfl rfl rfl dX11_getsThere_8 (fun w1 hp => ?_)
  obtain ⟨_, rfl, rfl⟩ := hp
  refine Wx.eqW (ws' := (WX X.γ b F N (Ct.set_wa N (Ct.wa M)) P hp sd)) rfl ?_
  refine x_aload_n C 0 rfl rfl dX11_getsThere_11 ?_
  refine x_get C in_X11_getsThere_X11 0 rfl rfl 2 (by decide) (List.mem_of_getElem? (i := 1) rfl) rfl (v := .ref (b 38)) rfl dX11_getsThere_12 ?_
  refine x_iload_n C 1 rfl rfl dX11_getsThere_15 ?_
  refine x_iload_n C 2 rfl rfl dX11_getsThere_16 ?_
  refine x_iload_n C 3 rfl rfl dX11_getsThere_17 ?_
  refine x_V_I C (As := [.int (iN (i)), .int (iN (al)), .int (iN (c))]) (rest := []) 3 38 rfl rfl gX11_getsThere_X1_walkTo rfl (MI.fM b F N (Ct.set_wa N (Ct.wa M)) P hp sd (fun r Z => ∃ P9, bd P9 0 14 ∧ r = Ct.wt N i al c (if c < Ct.po N i then -1 else 1) 15 (Ct.po N) ∧ Z = Ct.set_po (Ct.set_wa N (Ct.wa M)) P9) (c_X1_walkTo _ _ (adM b) (Ct.set_wa N (Ct.wa M)) hN (i) (al) (c) (by omega) (by omega) (by omega)) (fun r w h => h.elim (fun P9 h => ⟨_, ⟨P9, h.1, h.2.1, rfl⟩, h.2.2⟩))) rfl ok_X1_walkTo rfl rfl rfl rfl dX11_getsThere_18 (fun r w1 hp => ?_)
  obtain ⟨_, ⟨P58, hP58, rfl, rfl⟩, rfl⟩ := hp
  refine Wx.eqW (ws' := (WX X.γ b F N (Ct.set_wa (Ct.set_po N (P58)) (Ct.wa M)) P hp sd)) rfl ?_
  show Wx X 0 0 (WX X.γ b F N (Ct.set_wa (Ct.set_po N (P58)) (Ct.wa M)) P hp sd) 21 [(0, .ref (b 0)), (1, .int (iN (i))), (2, .int (iN (al))), (3, .int (iN (c)))] [.int (iN (Ct.wt N i al c (if c < Ct.po N i then -1 else 1) 15 (Ct.po N)))]
  exact hret _ _ _ _ dX11_getsThere_21 (nar_z (by exact wto_01 _ _ _ _ _ _ _ _ _ _ _)) ⟨rfl, _, rfl⟩
end HXAad
