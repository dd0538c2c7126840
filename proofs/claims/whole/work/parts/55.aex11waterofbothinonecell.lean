section HXAae
theorem in_X11_waterOfBothInOneCell_X1 : ∀ w ∈ u_ws RX1 TX1 13, w ∈ wsX11_waterOfBothInOneCell := by decide +kernel
theorem in_X11_waterOfBothInOneCell_X11 : ∀ w ∈ u_ws RX11 TX11 6, w ∈ wsX11_waterOfBothInOneCell := by decide +kernel
theorem ok_X11_waterOfBothInOneCell : okY yX11_waterOfBothInOneCell 2 := by decide +kernel
def rmX11_waterOfBothInOneCell : Room := { frames := 3, cells := 0, slots := 0, locals := 105 }
set_option maxRecDepth 100000 in
set_option maxHeartbeats 400000 in
theorem c_X11_waterOfBothInOneCell (l : Launch) (γ : GX) (b : Nat → Nat) (F : Nat → Sh) (N M P : Ct) (hp sd : Int) (hN : WFc N) (hF : ∀ t : Nat, t < 8 → WFs (F t)) (i : Int) (j : Int) (h0_ : 0 ≤ i ∧ i < 6) (h1_ : 0 ≤ j ∧ j < 6) : MI l γ yX11_waterOfBothInOneCell wsX11_waterOfBothInOneCell rmX11_waterOfBothInOneCell [.ref (b 0), .int (iN (i)), .int (iN (j))] (WX γ b F N M P hp sd) (fun r_ w_ => r_ = Ct.allW (Ct.set_po N (upz (upz (Ct.po N) i (min (Ct.po N i) (Ct.po N j))) j (min (Ct.po N i) (Ct.po N j)))) ∧ ∃ M2, w_ = WX γ b F N M2 P hp sd) 0 0 := by
  refine MI.of (cc := cX11_waterOfBothInOneCell) (maxL := 4) (rt := .int) RX11 rfl (by decide +kernel) rfl (Nat.le_of_ble_eq_true rfl) ?_
  intro X C hγ hl hnm hret
  subst hγ
  have hNn := WFc.n hN
  show Wx X 0 0 (WX X.γ b F N M P hp sd) 0 [(0, .ref (b 0)), (1, .int (iN (i))), (2, .int (iN (j)))] []
  refine x_aload_n C 0 rfl rfl dX11_waterOfBothInOneCell_0 ?_
  refine x_get C in_X11_waterOfBothInOneCell_X11 0 rfl rfl 2 (by decide) (List.mem_of_getElem? (i := 1) rfl) rfl (v := .ref (b 38)) rfl dX11_waterOfBothInOneCell_1 ?_
  refine x_aload_n C 0 rfl rfl dX11_waterOfBothInOneCell_4 ?_
  refine x_get C in_X11_waterOfBothInOneCell_X11 0 rfl rfl 1 (by decide) (List.mem_of_getElem? (i := 2) rfl) rfl (v := .ref (b 27)) rfl dX11_waterOfBothInOneCell_5 ?_
  refine x_V_V C (As := [.ref (b 27)]) (rest := []) 1 38 rfl rfl gX11_waterOfBothInOneCell_X1_become rfl (MV.bMN b F N M P hp sd (fun Z => Z = Ct.set_wa N (Ct.wa M)) (c_X1_become _ _ (adM b) (adN b) M N) (fun w h => ⟨_, rfl, h⟩)) rfl ok_X1_become rfl rfl rfl rfl dX11_waterOfBothInOneCell_8 (fun w1 hp => ?_)
  obtain ⟨_, rfl, rfl⟩ := hp
  refine Wx.eqW (ws' := (WX X.γ b F N (Ct.set_wa N (Ct.wa M)) P hp sd)) rfl ?_
  refine x_aload_n C 0 rfl rfl dX11_waterOfBothInOneCell_11 ?_
  refine x_get C in_X11_waterOfBothInOneCell_X11 0 rfl rfl 1 (by decide) (List.mem_of_getElem? (i := 2) rfl) rfl (v := .ref (b 27)) rfl dX11_waterOfBothInOneCell_12 ?_
  refine x_get C in_X11_waterOfBothInOneCell_X1 27 rfl rfl 7 (by decide) (List.mem_of_getElem? (i := 3) rfl) rfl (v := .ref (b 32)) rfl dX11_waterOfBothInOneCell_15 ?_
  refine x_iload_n C 1 rfl rfl dX11_waterOfBothInOneCell_18 ?_
  refine x_iaload C (f := Ct.po N) 32 rfl (by omega) rfl dX11_waterOfBothInOneCell_19 ?_
  have b59 := WFc.po hN (i)
  refine x_aload_n C 0 rfl rfl dX11_waterOfBothInOneCell_20 ?_
  refine x_get C in_X11_waterOfBothInOneCell_X11 0 rfl rfl 1 (by decide) (List.mem_of_getElem? (i := 2) rfl) rfl (v := .ref (b 27)) rfl dX11_waterOfBothInOneCell_21 ?_
  refine x_get C in_X11_waterOfBothInOneCell_X1 27 rfl rfl 7 (by decide) (List.mem_of_getElem? (i := 3) rfl) rfl (v := .ref (b 32)) rfl dX11_waterOfBothInOneCell_24 ?_
  refine x_iload_n C 2 rfl rfl dX11_waterOfBothInOneCell_27 ?_
  refine x_iaload C (f := Ct.po N) 32 rfl (by omega) rfl dX11_waterOfBothInOneCell_28 ?_
  have b60 := WFc.po hN (j)
  refine x_min C (List.mem_of_getElem? (i := 4) rfl) (List.mem_of_getElem? (i := 5) rfl) (List.mem_of_getElem? (i := 6) rfl) (List.mem_of_getElem? (i := 7) rfl) (by omega) rfl dX11_waterOfBothInOneCell_29 ?_
  have hmn : 0 ≤ min (Ct.po N i) (Ct.po N j) ∧ min (Ct.po N i) (Ct.po N j) ≤ 14 := by have b1 := WFc.po hN i; have b2 := WFc.po hN j; omega
  refine x_istore_n C [(3, .int (iN (min (Ct.po N i) (Ct.po N j)))), (0, .ref (b 0)), (1, .int (iN (i))), (2, .int (iN (j)))] rfl (by decide) rfl dX11_waterOfBothInOneCell_32 ?_
  refine x_aload_n C 1 rfl rfl dX11_waterOfBothInOneCell_33 ?_
  refine x_get C in_X11_waterOfBothInOneCell_X11 0 rfl rfl 2 (by decide) (List.mem_of_getElem? (i := 1) rfl) rfl (v := .ref (b 38)) rfl dX11_waterOfBothInOneCell_34 ?_
  refine x_get C in_X11_waterOfBothInOneCell_X1 38 rfl rfl 7 (by decide) (List.mem_of_getElem? (i := 3) rfl) rfl (v := .ref (b 43)) rfl dX11_waterOfBothInOneCell_37 ?_
  refine x_iload_n C 2 rfl rfl dX11_waterOfBothInOneCell_40 ?_
  refine x_iload_n C 0 rfl rfl dX11_waterOfBothInOneCell_41 ?_
  refine x_iastore C (f := Ct.po N) 43 rfl (by omega) rfl (WX X.γ b F N (Ct.set_wa (Ct.set_po N (upz (Ct.po N) i (min (Ct.po N i) (Ct.po N j)))) (Ct.wa M)) P hp sd) rfl dX11_waterOfBothInOneCell_42 ?_
  refine x_aload_n C 1 rfl rfl dX11_waterOfBothInOneCell_43 ?_
  refine x_get C in_X11_waterOfBothInOneCell_X11 0 rfl rfl 2 (by decide) (List.mem_of_getElem? (i := 1) rfl) rfl (v := .ref (b 38)) rfl dX11_waterOfBothInOneCell_44 ?_
  refine x_get C in_X11_waterOfBothInOneCell_X1 38 rfl rfl 7 (by decide) (List.mem_of_getElem? (i := 3) rfl) rfl (v := .ref (b 43)) rfl dX11_waterOfBothInOneCell_47 ?_
  refine x_iload_n C 3 rfl rfl dX11_waterOfBothInOneCell_50 ?_
  refine x_iload_n C 0 rfl rfl dX11_waterOfBothInOneCell_51 ?_
  refine x_iastore C (f := (upz (Ct.po N) i (min (Ct.po N i) (Ct.po N j)))) 43 rfl (by omega) rfl (WX X.γ b F N (Ct.set_wa (Ct.set_po N (upz (upz (Ct.po N) i (min (Ct.po N i) (Ct.po N j))) j (min (Ct.po N i) (Ct.po N j)))) (Ct.wa M)) P hp sd) rfl dX11_waterOfBothInOneCell_52 ?_
  refine x_aload_n C 1 rfl rfl dX11_waterOfBothInOneCell_53 ?_
  refine x_get C in_X11_waterOfBothInOneCell_X11 0 rfl rfl 2 (by decide) (List.mem_of_getElem? (i := 1) rfl) rfl (v := .ref (b 38)) rfl dX11_waterOfBothInOneCell_54 ?_
  refine x_V_I C (As := []) (rest := []) 0 38 rfl rfl gX11_waterOfBothInOneCell_X1_allWater rfl (MI.fM b F N (Ct.set_wa (Ct.set_po N (upz (upz (Ct.po N) i (min (Ct.po N i) (Ct.po N j))) j (min (Ct.po N i) (Ct.po N j)))) (Ct.wa M)) P hp sd (fun r Z => r = (Ct.allW (Ct.set_po N (upz (upz (Ct.po N) i (min (Ct.po N i) (Ct.po N j))) j (min (Ct.po N i) (Ct.po N j))))) ∧ (Ct.set_wa (Ct.set_po N (upz (upz (Ct.po N) i (min (Ct.po N i) (Ct.po N j))) j (min (Ct.po N i) (Ct.po N j)))) (Ct.w (Ct.set_wa (Ct.set_po N (upz (upz (Ct.po N) i (min (Ct.po N i) (Ct.po N j))) j (min (Ct.po N i) (Ct.po N j)))) (Ct.wa M)))) = Z) (c_X1_allWater _ _ (adM b) (Ct.set_wa (Ct.set_po N (upz (upz (Ct.po N) i (min (Ct.po N i) (Ct.po N j))) j (min (Ct.po N i) (Ct.po N j)))) (Ct.wa M)) (WFc.posn hN (bd_upz (i := j) (bd_upz (i := i) (WFc.po hN) hmn) hmn))) (fun r w h => ⟨_, ⟨h.1, rfl⟩, h.2⟩)) rfl ok_X1_allWater rfl rfl rfl rfl dX11_waterOfBothInOneCell_57 (fun r w1 hp => ?_)
  obtain ⟨_, ⟨rfl, rfl⟩, rfl⟩ := hp
  show Wx X 0 0 (WX X.γ b F N (Ct.set_wa (Ct.set_po N (upz (upz (Ct.po N) i (min (Ct.po N i) (Ct.po N j))) j (min (Ct.po N i) (Ct.po N j)))) (Ct.w (Ct.set_wa (Ct.set_po N (upz (upz (Ct.po N) i (min (Ct.po N i) (Ct.po N j))) j (min (Ct.po N i) (Ct.po N j)))) (Ct.wa M)))) P hp sd) 60 [(3, .int (iN (min (Ct.po N i) (Ct.po N j)))), (0, .ref (b 0)), (1, .int (iN (i))), (2, .int (iN (j)))] [.int (iN (Ct.allW (Ct.set_po N (upz (upz (Ct.po N) i (min (Ct.po N i) (Ct.po N j))) j (min (Ct.po N i) (Ct.po N j))))))]
  show Wx X 0 0 (WX X.γ b F N (Ct.set_wa (Ct.set_po N (upz (upz (Ct.po N) i (min (Ct.po N i) (Ct.po N j))) j (min (Ct.po N i) (Ct.po N j)))) (Ct.w (Ct.set_wa (Ct.set_po N (upz (upz (Ct.po N) i (min (Ct.po N i) (Ct.po N j))) j (min (Ct.po N i) (Ct.po N j)))) (Ct.wa M)))) P hp sd) 60 [(3, .int (iN (min (Ct.po N i) (Ct.po N j)))), (0, .ref (b 0)), (1, .int (iN (i))), (2, .int (iN (j)))] [.int (iN (Ct.allW (Ct.set_po N (upz (upz (Ct.po N) i (min (Ct.po N i) (Ct.po N j))) j (min (Ct.po N i) (Ct.po N j))))))]
  have b61 := WFc.allW (WFc.posn hN (bd_upz (i := j) (bd_upz (i := i) (WFc.po hN) hmn) hmn))
  exact hret _ _ _ _ dX11_waterOfBothInOneCell_60 rfl ⟨rfl, _, rfl⟩
end HXAae
