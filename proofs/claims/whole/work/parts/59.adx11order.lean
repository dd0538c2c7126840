section HXEad
theorem in_X11_order_X1 : ∀ w ∈ u_ws RX1 TX1 13, w ∈ wsX11_order := by decide +kernel
theorem in_X11_order_X11 : ∀ w ∈ u_ws RX11 TX11 6, w ∈ wsX11_order := by decide +kernel
theorem ok_X11_order : okY yX11_order 1 := by decide +kernel
def rmX11_order : Room := { frames := 4, cells := 0, slots := 0, locals := 88 }
set_option maxRecDepth 100000 in
set_option maxHeartbeats 400000 in
theorem c_X11_order (l : Launch) (γ : GX) (b : Nat → Nat) (F : Nat → Sh) (N M P : Ct) (hp sd : Int) (hN : WFc N) (hF : ∀ t : Nat, t < 8 → WFs (F t)) (w : Int) (h0_ : -2147483648 ≤ w ∧ w < 2147483648) : MI l γ yX11_order wsX11_order rmX11_order [.ref (b 0), .int (iN (w))] (WX γ b F N M P hp sd) (fun r_ w_ => r_ = q_order N w ∧ Wc γ b F N P hp w_) 0 0 := by
  refine MI.of (cc := cX11_order) (maxL := 6) (rt := .int) RX11 rfl (by decide +kernel) rfl (Nat.le_of_ble_eq_true rfl) ?_
  intro X C hγ hl hnm hret
  subst hγ
  have hNn := WFc.n hN
  show Wx X 0 0 (WX X.γ b F N M P hp sd) 0 [(0, .ref (b 0)), (1, .int (iN (w)))] []
  refine x_iload_n C 1 rfl rfl dX11_order_0 ?_
  refine x_iconst (v := 0) C dX11_order_1 ?_
  refine x_iconst (v := 0) C dX11_order_2 ?_
  refine x_S_I C (As := [.int (iN (w)), .int (iN (0)), .int (iN (1))]) (rest := []) 3 gX11_order_X11_isWithin (c_X11_isWithin _ _ (WX X.γ b F N M P hp sd) (w) (0) (1) (by omega) (by omega) (by omega)) rfl ok_X11_isWithin rfl rfl rfl rfl dX11_order_3 (fun r w1 hp => ?_)
  obtain ⟨rfl, rfl⟩ := hp
  refine x_ifne_bz C 11 (by decide) dX11_order_6 (fun c_6 => ?_) (fun c_6 => ?_)
  · refine x_bipush C (-4) (by decide) dX11_order_11 ?_
    refine x_istore_n C [(2, .int (iN (-4))), (0, .ref (b 0)), (1, .int (iN (w)))] rfl (by decide) rfl dX11_order_13 ?_
    refine x_bipush C (-4) (by decide) dX11_order_14 ?_
    refine x_istore_n C [(3, .int (iN (-4))), (2, .int (iN (-4))), (0, .ref (b 0)), (1, .int (iN (w)))] rfl (by decide) rfl dX11_order_16 ?_
    refine x_iconst (v := 0) C dX11_order_17 ?_
    refine x_istore C [(4, .int (iN (0))), (3, .int (iN (-4))), (2, .int (iN (-4))), (0, .ref (b 0)), (1, .int (iN (w)))] (by decide) rfl dX11_order_18 ?_
    have LP20 : ∀ (f : Nat) (k : Nat) (M1 : Ct) (v4_20 : Int) (v3_20 : Int) (v2_20 : Int), ((Ct.n N).toNat - k < f) → (k ≤ (Ct.n N).toNat) → ((v2_20 ≠ -4 ∨ v3_20 = -4) ∧ -4 ≤ v2_20 ∧ v2_20 ≤ 6) → (((k : Int)) = v4_20) → (v3_20 = (rfb N k)) → (v2_20 = (rfi N k)) → Wx X 0 0 (WX X.γ b F N M1 P hp sd) 20 [(4, .int (iN (v4_20))), (3, .int (iN (v3_20))), (2, .int (iN (v2_20))), (0, .ref (b 0)), (1, .int (iN (w)))] [] := by
      intro f
      induction f with
      | zero => intro k M1 v4_20 v3_20 v2_20 hf; exact absurd hf (Nat.not_lt_zero _)
      | succ f ih20 =>
        intro k M1 v4_20 v3_20 v2_20 hf hk hz e4_20 e3_20 e2_20
        subst e4_20
        have bb := rfb_b hN k
        refine x_iload C 0 rfl dX11_order_20 ?_
        refine x_aload_n C 3 rfl rfl dX11_order_22 ?_
        refine x_get C in_X11_order_X11 0 rfl rfl 1 (by decide) (List.mem_of_getElem? (i := 1) rfl) rfl (v := .ref (b 27)) rfl dX11_order_23 ?_
        refine x_get C in_X11_order_X1 27 rfl rfl 2 (by decide) (List.mem_of_getElem? (i := 2) rfl) rfl (v := .int (iN (Ct.n N))) rfl dX11_order_26 ?_
        refine x_icmp_ge C 90 (by decide) (by omega) dX11_order_29 (fun c_29 => ?_) (fun c_29 => ?_)
        · refine x_iload_n C 4 rfl rfl dX11_order_90 ?_
          refine x_if_ne C 98 (by decide) (by omega) dX11_order_91 (fun c_91 => ?_) (fun c_91 => ?_)
          · refine x_iload_n C 1 rfl rfl dX11_order_98 ?_
            exact hret _ _ _ _ dX11_order_99 rfl ⟨(by have hz9 : k = (Ct.n N).toNat := (by omega); subst hz9; unfold q_order; rw [if_pos (show 0 ≤ w ∧ w ≤ 1 by omega), if_neg (show ¬ w = 0 by omega)]; exact e3_20), ⟨(Ct.wa N), (Ct.wa P), _, _, rfl⟩⟩
          · refine x_iload_n C 2 rfl rfl dX11_order_94 ?_
            refine x_goto C 99 (by decide) dX11_order_95 ?_
            exact hret _ _ _ _ dX11_order_99 rfl ⟨(by have hz9 : k = (Ct.n N).toNat := (by omega); subst hz9; unfold q_order; rw [if_pos (show 0 ≤ w ∧ w ≤ 1 by omega), if_pos (show w = 0 by omega)]; exact e2_20), ⟨(Ct.wa N), (Ct.wa P), _, _, rfl⟩⟩
        · refine x_aload_n C 3 rfl rfl dX11_order_32 ?_
          refine x_get C in_X11_order_X11 0 rfl rfl 2 (by decide) (List.mem_of_getElem? (i := 3) rfl) rfl (v := .ref (b 38)) rfl dX11_order_33 ?_
          refine x_aload_n C 3 rfl rfl dX11_order_36 ?_
          refine x_get C in_X11_order_X11 0 rfl rfl 1 (by decide) (List.mem_of_getElem? (i := 1) rfl) rfl (v := .ref (b 27)) rfl dX11_order_37 ?_
          refine x_V_V C (As := [.ref (b 27)]) (rest := []) 1 38 rfl rfl gX11_order_X1_become rfl (MV.bMN b F N M1 P hp sd (fun Z => Z = Ct.set_wa N (Ct.wa M1)) (c_X1_become _ _ (adM b) (adN b) M1 N) (fun w h => ⟨_, rfl, h⟩)) rfl ok_X1_become rfl rfl rfl rfl dX11_order_40 (fun w1 hp => ?_)
          obtain ⟨_, rfl, rfl⟩ := hp
          refine Wx.eqW (ws' := (WX X.γ b F N (Ct.set_wa N (Ct.wa M1)) P hp sd)) rfl ?_
          refine x_aload_n C 3 rfl rfl dX11_order_43 ?_
          refine x_get C in_X11_order_X11 0 rfl rfl 2 (by decide) (List.mem_of_getElem? (i := 3) rfl) rfl (v := .ref (b 38)) rfl dX11_order_44 ?_
          refine x_get C in_X11_order_X1 38 rfl rfl 7 (by decide) (List.mem_of_getElem? (i := 4) rfl) rfl (v := .ref (b 43)) rfl dX11_order_47 ?_
          refine x_iload C 0 rfl dX11_order_50 ?_
          refine x_iconst (v := 0) C dX11_order_52 ?_
          refine x_iastore C (f := Ct.po N) 43 rfl (by omega) rfl (WX X.γ b F N (Ct.set_wa (Ct.set_po N (upz (Ct.po N) (k : Int) 0)) (Ct.wa M1)) P hp sd) rfl dX11_order_53 ?_
          refine x_aload_n C 3 rfl rfl dX11_order_54 ?_
          refine x_get C in_X11_order_X11 0 rfl rfl 2 (by decide) (List.mem_of_getElem? (i := 3) rfl) rfl (v := .ref (b 38)) rfl dX11_order_55 ?_
          refine x_iload C 0 rfl dX11_order_58 ?_
          refine x_iconst (v := 0) C dX11_order_60 ?_
          refine x_V_I C (As := [.int (iN ((k : Int))), .int (iN (1))]) (rest := []) 2 38 rfl rfl gX11_order_X1_walkFar rfl (MI.fM b F N (Ct.set_wa (Ct.set_po N (upz (Ct.po N) (k : Int) 0)) (Ct.wa M1)) P hp sd (fun r Z => r = (Ct.wk (Ct.set_po N (upz (Ct.po N) (k : Int) 0)) ((k : Int)) 1 15 ((k : Int))) ∧ (Ct.set_wa (Ct.set_po N (Ct.wk (Ct.set_po N (upz (Ct.po N) (k : Int) 0)) ((k : Int)) 1 15)) (Ct.wa M1)) = Z) (c_X1_walkFar _ _ (adM b) (Ct.set_wa (Ct.set_po N (upz (Ct.po N) (k : Int) 0)) (Ct.wa M1)) (WFc.posn hN (bd_upz (i := (k : Int)) (WFc.po hN) (show (0 : Int) ≤ 0 ∧ (0 : Int) ≤ 14 by omega))) ((k : Int)) (1) (by omega) (by omega)) (fun r w h => ⟨_, ⟨h.1, rfl⟩, h.2⟩)) rfl ok_X1_walkFar rfl rfl rfl rfl dX11_order_61 (fun r w1 hp => ?_)
          obtain ⟨_, ⟨rfl, rfl⟩, rfl⟩ := hp
          show Wx X 0 0 (WX X.γ b F N (Ct.set_wa (Ct.set_po N (Ct.wk (Ct.set_po N (upz (Ct.po N) (k : Int) 0)) ((k : Int)) 1 15)) (Ct.wa M1)) P hp sd) 64 [(4, .int (iN ((k : Int)))), (3, .int (iN (v3_20))), (2, .int (iN (v2_20))), (0, .ref (b 0)), (1, .int (iN (w)))] [.int (iN (Ct.wk (Ct.set_po N (upz (Ct.po N) (k : Int) 0)) ((k : Int)) 1 15 ((k : Int))))]
          show Wx X 0 0 (WX X.γ b F N (Ct.set_wa (Ct.set_po N (Ct.wk (Ct.set_po N (upz (Ct.po N) (k : Int) 0)) ((k : Int)) 1 15)) (Ct.wa M1)) P hp sd) 64 [(4, .int (iN ((k : Int)))), (3, .int (iN (v3_20))), (2, .int (iN (v2_20))), (0, .ref (b 0)), (1, .int (iN (w)))] [.int (iN (Ct.wk (Ct.set_po N (upz (Ct.po N) (k : Int) 0)) ((k : Int)) 1 15 ((k : Int))))]
          have b125 := Ct.wk_ok (i := (k : Int)) (b := 1) (WFc.posn hN (bd_upz (i := (k : Int)) (WFc.po hN) (show (0 : Int) ≤ 0 ∧ (0 : Int) ≤ 14 by omega))) 15 ((k : Int))
          rw [show Ct.wk (Ct.set_po N (upz (Ct.po N) (k : Int) 0)) ((k : Int)) 1 15 ((k : Int)) = rfz N (k : Int) from (by unfold rfz; exact (wk_rch (fun x hx => by omega) 15 _ (bd_upz (WFc.po hN) (by omega))).symm)]
          have brz := rfz_b hN (k : Int)
          refine x_istore C [(5, .int (iN (rfz N (k : Int)))), (4, .int (iN ((k : Int)))), (3, .int (iN (v3_20))), (2, .int (iN (v2_20))), (0, .ref (b 0)), (1, .int (iN (w)))] (by decide) rfl dX11_order_64 ?_
          refine x_iload_n C 3 rfl rfl dX11_order_66 ?_
          refine x_bipush C (-4) (by decide) dX11_order_67 ?_
          refine x_icmp_eq C 78 (by decide) (by omega) dX11_order_69 (fun c_69 => ?_) (fun c_69 => ?_)
          · refine x_iload C 0 rfl dX11_order_78 ?_
            refine x_istore_n C [(3, .int (iN (rfz N (k : Int)))), (5, .int (iN (rfz N (k : Int)))), (4, .int (iN ((k : Int)))), (2, .int (iN (v2_20))), (0, .ref (b 0)), (1, .int (iN (w)))] rfl (by decide) rfl dX11_order_80 ?_
            refine x_iload C 2 rfl dX11_order_81 ?_
            refine x_istore_n C [(2, .int (iN ((k : Int)))), (3, .int (iN (rfz N (k : Int)))), (5, .int (iN (rfz N (k : Int)))), (4, .int (iN ((k : Int)))), (0, .ref (b 0)), (1, .int (iN (w)))] rfl (by decide) rfl dX11_order_83 ?_
            refine x_iinc C 3 [(4, .int (iN ((k : Int) + 1))), (2, .int (iN ((k : Int)))), (3, .int (iN (rfz N (k : Int)))), (5, .int (iN (rfz N (k : Int)))), (0, .ref (b 0)), (1, .int (iN (w)))] rfl rfl (by decide) rfl dX11_order_84 ?_
            refine x_goto C 20 (by decide) dX11_order_87 ?_
            refine Wx.subL [0, 2, 1, 4, 5] rfl ?_
            exact ih20 (k + 1) ((Ct.set_wa (Ct.set_po N (Ct.wk (Ct.set_po N (upz (Ct.po N) (k : Int) 0)) ((k : Int)) 1 15)) (Ct.wa M1))) _ _ _ (by omega) (by omega) (by omega) (by omega) (by simp only [rfb]; rw [← e3_20]; rw [if_pos (by omega)]) (by simp only [rfi]; rw [← e3_20]; rw [if_pos (by omega)])
          · refine x_iload C 0 rfl dX11_order_72 ?_
            refine x_iload_n C 2 rfl rfl dX11_order_74 ?_
            refine x_icmp_le C 84 (by decide) (by omega) dX11_order_75 (fun c_75 => ?_) (fun c_75 => ?_)
            · refine x_iinc C 1 [(4, .int (iN ((k : Int) + 1))), (5, .int (iN (rfz N (k : Int)))), (3, .int (iN (v3_20))), (2, .int (iN (v2_20))), (0, .ref (b 0)), (1, .int (iN (w)))] rfl rfl (by decide) rfl dX11_order_84 ?_
              refine x_goto C 20 (by decide) dX11_order_87 ?_
              refine Wx.subL [0, 2, 3, 4, 5] rfl ?_
              exact ih20 (k + 1) ((Ct.set_wa (Ct.set_po N (Ct.wk (Ct.set_po N (upz (Ct.po N) (k : Int) 0)) ((k : Int)) 1 15)) (Ct.wa M1))) _ _ _ (by omega) (by omega) (by omega) (by omega) (by simp only [rfb]; rw [← e3_20]; rw [if_neg (by omega)]) (by simp only [rfi]; rw [← e3_20]; rw [if_neg (by omega)]; exact e2_20)
            · refine x_iload C 0 rfl dX11_order_78 ?_
              refine x_istore_n C [(3, .int (iN (rfz N (k : Int)))), (5, .int (iN (rfz N (k : Int)))), (4, .int (iN ((k : Int)))), (2, .int (iN (v2_20))), (0, .ref (b 0)), (1, .int (iN (w)))] rfl (by decide) rfl dX11_order_80 ?_
              refine x_iload C 2 rfl dX11_order_81 ?_
              refine x_istore_n C [(2, .int (iN ((k : Int)))), (3, .int (iN (rfz N (k : Int)))), (5, .int (iN (rfz N (k : Int)))), (4, .int (iN ((k : Int)))), (0, .ref (b 0)), (1, .int (iN (w)))] rfl (by decide) rfl dX11_order_83 ?_
              refine x_iinc C 3 [(4, .int (iN ((k : Int) + 1))), (2, .int (iN ((k : Int)))), (3, .int (iN (rfz N (k : Int)))), (5, .int (iN (rfz N (k : Int)))), (0, .ref (b 0)), (1, .int (iN (w)))] rfl rfl (by decide) rfl dX11_order_84 ?_
              refine x_goto C 20 (by decide) dX11_order_87 ?_
              refine Wx.subL [0, 2, 1, 4, 5] rfl ?_
              exact ih20 (k + 1) ((Ct.set_wa (Ct.set_po N (Ct.wk (Ct.set_po N (upz (Ct.po N) (k : Int) 0)) ((k : Int)) 1 15)) (Ct.wa M1))) _ _ _ (by omega) (by omega) (by omega) (by omega) (by simp only [rfb]; rw [← e3_20]; rw [if_pos (by omega)]) (by simp only [rfi]; rw [← e3_20]; rw [if_pos (by omega)])
    exact LP20 (((Ct.n N).toNat - (0)) + 1) (0) (M) _ _ _ (by omega) (by omega) (by omega) (by omega) (rfl) (rfl)
  · refine x_iconst (v := 0) C dX11_order_9 ?_
    exact hret _ _ _ _ dX11_order_10 rfl ⟨(by unfold q_order; rw [if_neg (show ¬ (0 ≤ w ∧ w ≤ 1) by omega)]), ⟨(Ct.wa N), (Ct.wa P), _, _, rfl⟩⟩
end HXEad
