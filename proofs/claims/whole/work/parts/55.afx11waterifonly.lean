section HXAaf
theorem in_X11_waterIfOnly_X1 : ∀ w ∈ u_ws RX1 TX1 13, w ∈ wsX11_waterIfOnly := by decide +kernel
theorem in_X11_waterIfOnly_X11 : ∀ w ∈ u_ws RX11 TX11 6, w ∈ wsX11_waterIfOnly := by decide +kernel
theorem ok_X11_waterIfOnly : okY yX11_waterIfOnly 1 := by decide +kernel
def rmX11_waterIfOnly : Room := { frames := 3, cells := 0, slots := 0, locals := 105 }
set_option maxRecDepth 100000 in
set_option maxHeartbeats 400000 in
theorem c_X11_waterIfOnly (l : Launch) (γ : GX) (b : Nat → Nat) (F : Nat → Sh) (N M P : Ct) (hp sd : Int) (hN : WFc N) (hF : ∀ t : Nat, t < 8 → WFs (F t)) (t : Int) (h0_ : 0 ≤ t ∧ t < 2147483648) : MI l γ yX11_waterIfOnly wsX11_waterIfOnly rmX11_waterIfOnly [.ref (b 0), .int (iN (t))] (WX γ b F N M P hp sd) (fun r_ w_ => r_ = Ct.allW (Ct.set_pr N (onp (Ct.pr N) t (Ct.n N).toNat)) ∧ ∃ M2, w_ = WX γ b F N M2 P hp sd) 0 0 := by
  refine MI.of (cc := cX11_waterIfOnly) (maxL := 3) (rt := .int) RX11 rfl (by decide +kernel) rfl (Nat.le_of_ble_eq_true rfl) ?_
  intro X C hγ hl hnm hret
  subst hγ
  have hNn := WFc.n hN
  show Wx X 0 0 (WX X.γ b F N M P hp sd) 0 [(0, .ref (b 0)), (1, .int (iN (t)))] []
  refine x_aload_n C 0 rfl rfl dX11_waterIfOnly_0 ?_
  refine x_get C in_X11_waterIfOnly_X11 0 rfl rfl 2 (by decide) (List.mem_of_getElem? (i := 1) rfl) rfl (v := .ref (b 38)) rfl dX11_waterIfOnly_1 ?_
  refine x_aload_n C 0 rfl rfl dX11_waterIfOnly_4 ?_
  refine x_get C in_X11_waterIfOnly_X11 0 rfl rfl 1 (by decide) (List.mem_of_getElem? (i := 2) rfl) rfl (v := .ref (b 27)) rfl dX11_waterIfOnly_5 ?_
  refine x_V_V C (As := [.ref (b 27)]) (rest := []) 1 38 rfl rfl gX11_waterIfOnly_X1_become rfl (MV.bMN b F N M P hp sd (fun Z => Z = Ct.set_wa N (Ct.wa M)) (c_X1_become _ _ (adM b) (adN b) M N) (fun w h => ⟨_, rfl, h⟩)) rfl ok_X1_become rfl rfl rfl rfl dX11_waterIfOnly_8 (fun w1 hp => ?_)
  obtain ⟨_, rfl, rfl⟩ := hp
  refine Wx.eqW (ws' := (WX X.γ b F N (Ct.set_wa N (Ct.wa M)) P hp sd)) rfl ?_
  refine x_iconst (v := 0) C dX11_waterIfOnly_11 ?_
  refine x_istore_n C [(2, .int (iN (0))), (0, .ref (b 0)), (1, .int (iN (t)))] rfl (by decide) rfl dX11_waterIfOnly_12 ?_
  have LP13 : ∀ (f : Nat) (k : Nat) (v2_13 : Int), ((Ct.n N).toNat - k < f) → (k ≤ (Ct.n N).toNat) → (((k : Int)) = v2_13) → Wx X 0 0 (WX X.γ b F N (Ct.set_wa (Ct.set_pr N (onp (Ct.pr N) t k)) (Ct.wa M)) P hp sd) 13 [(2, .int (iN (v2_13))), (0, .ref (b 0)), (1, .int (iN (t)))] [] := by
    intro f
    induction f with
    | zero => intro k v2_13 hf; exact absurd hf (Nat.not_lt_zero _)
    | succ f ih13 =>
      intro k v2_13 hf hk e2_13
      subst e2_13
      refine x_iload_n C 0 rfl rfl dX11_waterIfOnly_13 ?_
      refine x_aload_n C 1 rfl rfl dX11_waterIfOnly_14 ?_
      refine x_get C in_X11_waterIfOnly_X11 0 rfl rfl 1 (by decide) (List.mem_of_getElem? (i := 2) rfl) rfl (v := .ref (b 27)) rfl dX11_waterIfOnly_15 ?_
      refine x_get C in_X11_waterIfOnly_X1 27 rfl rfl 2 (by decide) (List.mem_of_getElem? (i := 3) rfl) rfl (v := .int (iN (Ct.n N))) rfl dX11_waterIfOnly_18 ?_
      refine x_icmp_ge C 46 (by decide) (by omega) dX11_waterIfOnly_21 (fun c_21 => ?_) (fun c_21 => ?_)
      · refine x_aload_n C 1 rfl rfl dX11_waterIfOnly_46 ?_
        refine x_get C in_X11_waterIfOnly_X11 0 rfl rfl 2 (by decide) (List.mem_of_getElem? (i := 1) rfl) rfl (v := .ref (b 38)) rfl dX11_waterIfOnly_47 ?_
        refine x_V_I C (As := []) (rest := []) 0 38 rfl rfl gX11_waterIfOnly_X1_allWater rfl (MI.fM b F N (Ct.set_wa (Ct.set_pr N (onp (Ct.pr N) t k)) (Ct.wa M)) P hp sd (fun r Z => r = (Ct.allW (Ct.set_pr N (onp (Ct.pr N) t k))) ∧ (Ct.set_wa (Ct.set_pr N (onp (Ct.pr N) t k)) (Ct.w (Ct.set_wa (Ct.set_pr N (onp (Ct.pr N) t k)) (Ct.wa M)))) = Z) (c_X1_allWater _ _ (adM b) (Ct.set_wa (Ct.set_pr N (onp (Ct.pr N) t k)) (Ct.wa M)) (WFc.prs hN (onp_b (WFc.pr hN) t k))) (fun r w h => ⟨_, ⟨h.1, rfl⟩, h.2⟩)) rfl ok_X1_allWater rfl rfl rfl rfl dX11_waterIfOnly_50 (fun r w1 hp => ?_)
        obtain ⟨_, ⟨rfl, rfl⟩, rfl⟩ := hp
        show Wx X 0 0 (WX X.γ b F N (Ct.set_wa (Ct.set_pr N (onp (Ct.pr N) t k)) (Ct.w (Ct.set_wa (Ct.set_pr N (onp (Ct.pr N) t k)) (Ct.wa M)))) P hp sd) 53 [(2, .int (iN ((k : Int)))), (0, .ref (b 0)), (1, .int (iN (t)))] [.int (iN (Ct.allW (Ct.set_pr N (onp (Ct.pr N) t k))))]
        show Wx X 0 0 (WX X.γ b F N (Ct.set_wa (Ct.set_pr N (onp (Ct.pr N) t k)) (Ct.w (Ct.set_wa (Ct.set_pr N (onp (Ct.pr N) t k)) (Ct.wa M)))) P hp sd) 53 [(2, .int (iN ((k : Int)))), (0, .ref (b 0)), (1, .int (iN (t)))] [.int (iN (Ct.allW (Ct.set_pr N (onp (Ct.pr N) t k))))]
        have b62 := WFc.allW (WFc.prs hN (onp_b (WFc.pr hN) t k))
        exact hret _ _ _ _ dX11_waterIfOnly_53 rfl ⟨(by rw [show (Ct.n N).toNat = k by omega]), _, rfl⟩
      · refine x_iload_n C 2 rfl rfl dX11_waterIfOnly_24 ?_
        refine x_iload_n C 0 rfl rfl dX11_waterIfOnly_25 ?_
        refine x_S_I C (As := [.int (iN (t)), .int (iN ((k : Int)))]) (rest := []) 2 gX11_waterIfOnly_X11_isIn (c_X11_isIn _ _ (WX X.γ b F N (Ct.set_wa (Ct.set_pr N (onp (Ct.pr N) t k)) (Ct.wa M)) P hp sd) (t) ((k : Int)) (by omega) (by omega)) rfl ok_X11_isIn rfl rfl rfl rfl dX11_waterIfOnly_26 (fun r w1 hp => ?_)
        obtain ⟨rfl, rfl⟩ := hp
        refine x_ifne_bz C 40 (by decide) dX11_waterIfOnly_29 (fun c_29 => ?_) (fun c_29 => ?_)
        · refine x_iinc C 0 [(2, .int (iN ((k : Int) + 1))), (0, .ref (b 0)), (1, .int (iN (t)))] rfl rfl (by decide) rfl dX11_waterIfOnly_40 ?_
          refine x_goto C 13 (by decide) dX11_waterIfOnly_43 ?_
          refine Wx.eqW (ws' := (WX X.γ b F N (Ct.set_wa (Ct.set_pr N (onp (Ct.pr N) t (k + 1))) (Ct.wa M)) P hp sd)) (by rw [show onp (Ct.pr N) t (k + 1) = onp (Ct.pr N) t k from if_pos c_29]) ?_
          exact ih13 (k + 1) _ (by omega) (by omega) (by omega)
        · refine x_aload_n C 1 rfl rfl dX11_waterIfOnly_32 ?_
          refine x_get C in_X11_waterIfOnly_X11 0 rfl rfl 2 (by decide) (List.mem_of_getElem? (i := 1) rfl) rfl (v := .ref (b 38)) rfl dX11_waterIfOnly_33 ?_
          refine x_iload_n C 0 rfl rfl dX11_waterIfOnly_36 ?_
          refine x_V_V C (As := [.int (iN ((k : Int)))]) (rest := []) 1 38 rfl rfl gX11_waterIfOnly_X1_sendAway rfl (MV.fM b F N (Ct.set_wa (Ct.set_pr N (onp (Ct.pr N) t k)) (Ct.wa M)) P hp sd (fun Z => (Ct.set_wa (Ct.set_pr N (upz (onp (Ct.pr N) t k) ((k : Int)) 0)) (Ct.wa M)) = Z) (c_X1_sendAway _ _ (adM b) (Ct.set_wa (Ct.set_pr N (onp (Ct.pr N) t k)) (Ct.wa M)) ((k : Int)) (by omega)) (fun w h => ⟨_, rfl, h⟩)) rfl ok_X1_sendAway rfl rfl rfl rfl dX11_waterIfOnly_37 (fun w1 hp => ?_)
          obtain ⟨_, rfl, rfl⟩ := hp
          refine Wx.eqW (ws' := (WX X.γ b F N (Ct.set_wa (Ct.set_pr N (upz (onp (Ct.pr N) t k) ((k : Int)) 0)) (Ct.wa M)) P hp sd)) rfl ?_
          refine x_iinc C 0 [(2, .int (iN ((k : Int) + 1))), (0, .ref (b 0)), (1, .int (iN (t)))] rfl rfl (by decide) rfl dX11_waterIfOnly_40 ?_
          refine x_goto C 13 (by decide) dX11_waterIfOnly_43 ?_
          refine Wx.eqW (ws' := (WX X.γ b F N (Ct.set_wa (Ct.set_pr N (onp (Ct.pr N) t (k + 1))) (Ct.wa M)) P hp sd)) (by rw [show onp (Ct.pr N) t (k + 1) = upz (onp (Ct.pr N) t k) ((k : Int)) 0 from if_neg c_29]) ?_
          exact ih13 (k + 1) _ (by omega) (by omega) (by omega)
  refine Wx.eqW (ws' := (WX X.γ b F N (Ct.set_wa (Ct.set_pr N (onp (Ct.pr N) t 0)) (Ct.wa M)) P hp sd)) rfl ?_
  exact LP13 (((Ct.n N).toNat - (0)) + 1) (0) _ (by omega) (by omega) (by omega)
end HXAaf
