section HXAag
theorem in_X11_levelUnder_X1 : ∀ w ∈ u_ws RX1 TX1 13, w ∈ wsX11_levelUnder := by decide +kernel
theorem in_X11_levelUnder_X11 : ∀ w ∈ u_ws RX11 TX11 6, w ∈ wsX11_levelUnder := by decide +kernel
theorem ok_X11_levelUnder : okY yX11_levelUnder 4 := by decide +kernel
def rmX11_levelUnder : Room := { frames := 2, cells := 0, slots := 0, locals := 81 }
set_option maxRecDepth 100000 in
set_option maxHeartbeats 400000 in
theorem c_X11_levelUnder (l : Launch) (γ : GX) (b : Nat → Nat) (F : Nat → Sh) (N M P : Ct) (hp sd : Int) (hN : WFc N) (hF : ∀ t : Nat, t < 8 → WFs (F t)) (i : Int) (j : Int) (ch : Int) (co : Int) (h0_ : 0 ≤ i ∧ i < 6) (h1_ : 0 ≤ j ∧ j < 6) (h2_ : -2147483648 ≤ ch ∧ ch < 2147483648) (h3_ : -2147483648 ≤ co ∧ co < 2147483648) (h4_ : i ≠ j) : MI l γ yX11_levelUnder wsX11_levelUnder rmX11_levelUnder [.ref (b 0), .int (iN (i)), .int (iN (j)), .int (iN (ch)), .int (iN (co))] (WX γ b F N M P hp sd) (fun r_ w_ => r_ = Ct.g (Ct.set_po N (upz (upz (Ct.po N) i (if ch = 0 then Ct.po N i else Ct.po N j)) j (if co = 0 then Ct.po N j else Ct.po N i))) (if ch = 0 then Ct.po N i else Ct.po N j) ∧ ∃ M2, w_ = WX γ b F N M2 P hp sd) 0 0 := by
  refine MI.of (cc := cX11_levelUnder) (maxL := 5) (rt := .int) RX11 rfl (by decide +kernel) rfl (Nat.le_of_ble_eq_true rfl) ?_
  intro X C hγ hl hnm hret
  subst hγ
  have hNn := WFc.n hN
  show Wx X 0 0 (WX X.γ b F N M P hp sd) 0 [(0, .ref (b 0)), (1, .int (iN (i))), (2, .int (iN (j))), (3, .int (iN (ch))), (4, .int (iN (co)))] []
  refine x_aload_n C 0 rfl rfl dX11_levelUnder_0 ?_
  refine x_get C in_X11_levelUnder_X11 0 rfl rfl 2 (by decide) (List.mem_of_getElem? (i := 1) rfl) rfl (v := .ref (b 38)) rfl dX11_levelUnder_1 ?_
  refine x_aload_n C 0 rfl rfl dX11_levelUnder_4 ?_
  refine x_get C in_X11_levelUnder_X11 0 rfl rfl 1 (by decide) (List.mem_of_getElem? (i := 2) rfl) rfl (v := .ref (b 27)) rfl dX11_levelUnder_5 ?_
  refine x_V_V C (As := [.ref (b 27)]) (rest := []) 1 38 rfl rfl gX11_levelUnder_X1_become rfl (MV.bMN b F N M P hp sd (fun Z => Z = Ct.set_wa N (Ct.wa M)) (c_X1_become _ _ (adM b) (adN b) M N) (fun w h => ⟨_, rfl, h⟩)) rfl ok_X1_become rfl rfl rfl rfl dX11_levelUnder_8 (fun w1 hp => ?_)
  obtain ⟨_, rfl, rfl⟩ := hp
  refine Wx.eqW (ws' := (WX X.γ b F N (Ct.set_wa N (Ct.wa M)) P hp sd)) rfl ?_
  refine x_aload_n C 0 rfl rfl dX11_levelUnder_11 ?_
  refine x_get C in_X11_levelUnder_X11 0 rfl rfl 2 (by decide) (List.mem_of_getElem? (i := 1) rfl) rfl (v := .ref (b 38)) rfl dX11_levelUnder_12 ?_
  refine x_get C in_X11_levelUnder_X1 38 rfl rfl 7 (by decide) (List.mem_of_getElem? (i := 3) rfl) rfl (v := .ref (b 43)) rfl dX11_levelUnder_15 ?_
  refine x_iload_n C 1 rfl rfl dX11_levelUnder_18 ?_
  refine x_iload_n C 3 rfl rfl dX11_levelUnder_19 ?_
  have LP44 : ∀ (s0_44 : Int), (s0_44 = ((if ch = 0 then Ct.po N i else Ct.po N j))) → Wx X 0 0 (WX X.γ b F N (Ct.set_wa N (Ct.wa M)) P hp sd) 44 [(0, .ref (b 0)), (1, .int (iN (i))), (2, .int (iN (j))), (3, .int (iN (ch))), (4, .int (iN (co)))] [.int (iN (s0_44)), .int (iN (i)), .ref (b 43)] := by
    intro s0_44 es0_44
    have hs44 : 0 ≤ s0_44 ∧ s0_44 ≤ 14 := by have b1 := WFc.po hN i; have b2 := WFc.po hN j; omega
    refine x_iastore C (f := Ct.po N) 43 rfl (by omega) rfl (WX X.γ b F N (Ct.set_wa (Ct.set_po N (upz (Ct.po N) i s0_44)) (Ct.wa M)) P hp sd) rfl dX11_levelUnder_44 ?_
    refine x_aload_n C 0 rfl rfl dX11_levelUnder_45 ?_
    refine x_get C in_X11_levelUnder_X11 0 rfl rfl 2 (by decide) (List.mem_of_getElem? (i := 1) rfl) rfl (v := .ref (b 38)) rfl dX11_levelUnder_46 ?_
    refine x_get C in_X11_levelUnder_X1 38 rfl rfl 7 (by decide) (List.mem_of_getElem? (i := 3) rfl) rfl (v := .ref (b 43)) rfl dX11_levelUnder_49 ?_
    refine x_iload_n C 2 rfl rfl dX11_levelUnder_52 ?_
    refine x_iload C 4 rfl dX11_levelUnder_53 ?_
    have LP79 : ∀ (s0_79 : Int), (s0_79 = ((if co = 0 then Ct.po N j else Ct.po N i))) → Wx X 0 0 (WX X.γ b F N (Ct.set_wa (Ct.set_po N (upz (Ct.po N) i s0_44)) (Ct.wa M)) P hp sd) 79 [(0, .ref (b 0)), (1, .int (iN (i))), (2, .int (iN (j))), (3, .int (iN (ch))), (4, .int (iN (co)))] [.int (iN (s0_79)), .int (iN (j)), .ref (b 43)] := by
      intro s0_79 es0_79
      have hs79 : 0 ≤ s0_79 ∧ s0_79 ≤ 14 := by have b1 := WFc.po hN i; have b2 := WFc.po hN j; omega
      refine x_iastore C (f := (upz (Ct.po N) i s0_44)) 43 rfl (by omega) rfl (WX X.γ b F N (Ct.set_wa (Ct.set_po N (upz (upz (Ct.po N) i s0_44) j s0_79)) (Ct.wa M)) P hp sd) rfl dX11_levelUnder_79 ?_
      refine x_aload_n C 0 rfl rfl dX11_levelUnder_80 ?_
      refine x_get C in_X11_levelUnder_X11 0 rfl rfl 2 (by decide) (List.mem_of_getElem? (i := 1) rfl) rfl (v := .ref (b 38)) rfl dX11_levelUnder_81 ?_
      refine x_aload_n C 0 rfl rfl dX11_levelUnder_84 ?_
      refine x_get C in_X11_levelUnder_X11 0 rfl rfl 2 (by decide) (List.mem_of_getElem? (i := 1) rfl) rfl (v := .ref (b 38)) rfl dX11_levelUnder_85 ?_
      refine x_get C in_X11_levelUnder_X1 38 rfl rfl 7 (by decide) (List.mem_of_getElem? (i := 3) rfl) rfl (v := .ref (b 43)) rfl dX11_levelUnder_88 ?_
      refine x_iload_n C 1 rfl rfl dX11_levelUnder_91 ?_
      refine x_iaload C (f := (upz (upz (Ct.po N) i s0_44) j s0_79)) 43 rfl (by omega) rfl dX11_levelUnder_92 ?_
      have b63 := (bd_upz (i := j) (bd_upz (i := i) (WFc.po hN) hs44) hs79) (i)
      rw [show (upz (upz (Ct.po N) i s0_44) j s0_79) i = s0_44 from (by rw [upz_n h4_, upz_s])]
      refine x_V_I C (As := [.int (iN (s0_44))]) (rest := []) 1 38 rfl rfl gX11_levelUnder_X1_level rfl (MI.fM b F N (Ct.set_wa (Ct.set_po N (upz (upz (Ct.po N) i s0_44) j s0_79)) (Ct.wa M)) P hp sd (fun r Z => r = (Ct.g (Ct.set_po N (upz (upz (Ct.po N) i s0_44) j s0_79)) s0_44) ∧ (Ct.set_wa (Ct.set_po N (upz (upz (Ct.po N) i s0_44) j s0_79)) (Ct.wa M)) = Z) (c_X1_level _ _ (adM b) (Ct.set_wa (Ct.set_po N (upz (upz (Ct.po N) i s0_44) j s0_79)) (Ct.wa M)) (WFc.posn hN (bd_upz (i := j) (bd_upz (i := i) (WFc.po hN) hs44) hs79)) (s0_44) (by omega)) (fun r w h => ⟨_, ⟨h.1, rfl⟩, h.2⟩)) rfl ok_X1_level rfl rfl rfl rfl dX11_levelUnder_93 (fun r w1 hp => ?_)
      obtain ⟨_, ⟨rfl, rfl⟩, rfl⟩ := hp
      show Wx X 0 0 (WX X.γ b F N (Ct.set_wa (Ct.set_po N (upz (upz (Ct.po N) i s0_44) j s0_79)) (Ct.wa M)) P hp sd) 96 [(0, .ref (b 0)), (1, .int (iN (i))), (2, .int (iN (j))), (3, .int (iN (ch))), (4, .int (iN (co)))] [.int (iN (Ct.g (Ct.set_po N (upz (upz (Ct.po N) i s0_44) j s0_79)) s0_44))]
      show Wx X 0 0 (WX X.γ b F N (Ct.set_wa (Ct.set_po N (upz (upz (Ct.po N) i s0_44) j s0_79)) (Ct.wa M)) P hp sd) 96 [(0, .ref (b 0)), (1, .int (iN (i))), (2, .int (iN (j))), (3, .int (iN (ch))), (4, .int (iN (co)))] [.int (iN (Ct.g (Ct.set_po N (upz (upz (Ct.po N) i s0_44) j s0_79)) s0_44))]
      have b64 := WFc.g (WFc.posn hN (bd_upz (i := j) (bd_upz (i := i) (WFc.po hN) hs44) hs79)) (s0_44)
      exact hret _ _ _ _ dX11_levelUnder_96 rfl ⟨(by rw [es0_44, es0_79]), _, rfl⟩
    refine x_if_ne C 70 (by decide) (by omega) dX11_levelUnder_55 (fun c_55 => ?_) (fun c_55 => ?_)
    · refine x_aload_n C 0 rfl rfl dX11_levelUnder_70 ?_
      refine x_get C in_X11_levelUnder_X11 0 rfl rfl 1 (by decide) (List.mem_of_getElem? (i := 2) rfl) rfl (v := .ref (b 27)) rfl dX11_levelUnder_71 ?_
      refine x_get C in_X11_levelUnder_X1 27 rfl rfl 7 (by decide) (List.mem_of_getElem? (i := 3) rfl) rfl (v := .ref (b 32)) rfl dX11_levelUnder_74 ?_
      refine x_iload_n C 1 rfl rfl dX11_levelUnder_77 ?_
      refine x_iaload C (f := Ct.po N) 32 rfl (by omega) rfl dX11_levelUnder_78 ?_
      have b65 := WFc.po hN (i)
      exact LP79 _ (by omega)
    · refine x_aload_n C 0 rfl rfl dX11_levelUnder_58 ?_
      refine x_get C in_X11_levelUnder_X11 0 rfl rfl 1 (by decide) (List.mem_of_getElem? (i := 2) rfl) rfl (v := .ref (b 27)) rfl dX11_levelUnder_59 ?_
      refine x_get C in_X11_levelUnder_X1 27 rfl rfl 7 (by decide) (List.mem_of_getElem? (i := 3) rfl) rfl (v := .ref (b 32)) rfl dX11_levelUnder_62 ?_
      refine x_iload_n C 2 rfl rfl dX11_levelUnder_65 ?_
      refine x_iaload C (f := Ct.po N) 32 rfl (by omega) rfl dX11_levelUnder_66 ?_
      have b66 := WFc.po hN (j)
      refine x_goto C 79 (by decide) dX11_levelUnder_67 ?_
      exact LP79 _ (by omega)
  refine x_if_ne C 35 (by decide) (by omega) dX11_levelUnder_20 (fun c_20 => ?_) (fun c_20 => ?_)
  · refine x_aload_n C 0 rfl rfl dX11_levelUnder_35 ?_
    refine x_get C in_X11_levelUnder_X11 0 rfl rfl 1 (by decide) (List.mem_of_getElem? (i := 2) rfl) rfl (v := .ref (b 27)) rfl dX11_levelUnder_36 ?_
    refine x_get C in_X11_levelUnder_X1 27 rfl rfl 7 (by decide) (List.mem_of_getElem? (i := 3) rfl) rfl (v := .ref (b 32)) rfl dX11_levelUnder_39 ?_
    refine x_iload_n C 2 rfl rfl dX11_levelUnder_42 ?_
    refine x_iaload C (f := Ct.po N) 32 rfl (by omega) rfl dX11_levelUnder_43 ?_
    have b67 := WFc.po hN (j)
    exact LP44 _ (by omega)
  · refine x_aload_n C 0 rfl rfl dX11_levelUnder_23 ?_
    refine x_get C in_X11_levelUnder_X11 0 rfl rfl 1 (by decide) (List.mem_of_getElem? (i := 2) rfl) rfl (v := .ref (b 27)) rfl dX11_levelUnder_24 ?_
    refine x_get C in_X11_levelUnder_X1 27 rfl rfl 7 (by decide) (List.mem_of_getElem? (i := 3) rfl) rfl (v := .ref (b 32)) rfl dX11_levelUnder_27 ?_
    refine x_iload_n C 1 rfl rfl dX11_levelUnder_30 ?_
    refine x_iaload C (f := Ct.po N) 32 rfl (by omega) rfl dX11_levelUnder_31 ?_
    have b68 := WFc.po hN (i)
    refine x_goto C 44 (by decide) dX11_levelUnder_32 ?_
    exact LP44 _ (by omega)
end HXAag
