section HXAai
theorem in_X11_drawCountry_X1 : ∀ w ∈ u_ws RX1 TX1 13, w ∈ wsX11_drawCountry := by decide +kernel
theorem in_X11_drawCountry_X11 : ∀ w ∈ u_ws RX11 TX11 6, w ∈ wsX11_drawCountry := by decide +kernel
theorem ok_X11_drawCountry : okY yX11_drawCountry 0 := by decide +kernel
def rmX11_drawCountry : Room := { frames := 2, cells := 0, slots := 0, locals := 81 }
set_option maxRecDepth 100000 in
set_option maxHeartbeats 400000 in
theorem c_X11_drawCountry (l : Launch) (γ : GX) (b : Nat → Nat) (F : Nat → Sh) (N M P : Ct) (hp sd : Int) (hN : WFc N) (hF : ∀ t : Nat, t < 8 → WFs (F t)) : MV l γ yX11_drawCountry wsX11_drawCountry rmX11_drawCountry [.ref (b 0)] (WX γ b F N M P hp sd) (fun w_ => w_ = WX γ b F N (Ct.set_wa (drC N sd) (Ct.wa M)) P hp (sdn sd (Ct.n N).toNat)) 0 0 := by
  refine MV.of (cc := cX11_drawCountry) (maxL := 2) RX11 rfl (by decide +kernel) rfl (Nat.le_of_ble_eq_true rfl) ?_
  intro X C hγ hl hnm hret
  subst hγ
  have hNn := WFc.n hN
  show Wx X 0 0 (WX X.γ b F N M P hp sd) 0 [(0, .ref (b 0))] []
  refine x_aload_n C 0 rfl rfl dX11_drawCountry_0 ?_
  refine x_get C in_X11_drawCountry_X11 0 rfl rfl 2 (by decide) (List.mem_of_getElem? (i := 1) rfl) rfl (v := .ref (b 38)) rfl dX11_drawCountry_1 ?_
  refine x_aload_n C 0 rfl rfl dX11_drawCountry_4 ?_
  refine x_get C in_X11_drawCountry_X11 0 rfl rfl 1 (by decide) (List.mem_of_getElem? (i := 2) rfl) rfl (v := .ref (b 27)) rfl dX11_drawCountry_5 ?_
  refine x_V_V C (As := [.ref (b 27)]) (rest := []) 1 38 rfl rfl gX11_drawCountry_X1_become rfl (MV.bMN b F N M P hp sd (fun Z => Z = Ct.set_wa N (Ct.wa M)) (c_X1_become _ _ (adM b) (adN b) M N) (fun w h => ⟨_, rfl, h⟩)) rfl ok_X1_become rfl rfl rfl rfl dX11_drawCountry_8 (fun w1 hp => ?_)
  obtain ⟨_, rfl, rfl⟩ := hp
  refine Wx.eqW (ws' := (WX X.γ b F N (Ct.set_wa N (Ct.wa M)) P hp sd)) rfl ?_
  refine x_iconst (v := 0) C dX11_drawCountry_11 ?_
  refine x_istore_n C [(1, .int (iN (0))), (0, .ref (b 0))] rfl (by decide) rfl dX11_drawCountry_12 ?_
  have LP13 : ∀ (f : Nat) (k : Nat) (v1_13 : Int), ((Ct.n N).toNat - k < f) → (k ≤ (Ct.n N).toNat) → (((k : Int)) = v1_13) → Wx X 0 0 (WX X.γ b F N (Ct.set_wa (Ct.set_wy (Ct.set_po N (drP (Ct.po N) sd k)) (drW (Ct.wy N) sd k)) (Ct.wa M)) P hp (sdn sd k)) 13 [(1, .int (iN (v1_13))), (0, .ref (b 0))] [] := by
    intro f
    induction f with
    | zero => intro k v1_13 hf; exact absurd hf (Nat.not_lt_zero _)
    | succ f ih13 =>
      intro k v1_13 hf hk e1_13
      subst e1_13
      refine x_iload_n C 0 rfl rfl dX11_drawCountry_13 ?_
      refine x_aload_n C 1 rfl rfl dX11_drawCountry_14 ?_
      refine x_get C in_X11_drawCountry_X11 0 rfl rfl 2 (by decide) (List.mem_of_getElem? (i := 1) rfl) rfl (v := .ref (b 38)) rfl dX11_drawCountry_15 ?_
      refine x_get C in_X11_drawCountry_X1 38 rfl rfl 2 (by decide) (List.mem_of_getElem? (i := 3) rfl) rfl (v := .int (iN (Ct.n N))) rfl dX11_drawCountry_18 ?_
      refine x_icmp_ge C 61 (by decide) (by omega) dX11_drawCountry_21 (fun c_21 => ?_) (fun c_21 => ?_)
      · exact hret _ _ _ dX11_drawCountry_61 (by have hz : k = (Ct.n N).toNat := (by omega); subst hz; rfl)
      · refine x_aload_n C 1 rfl rfl dX11_drawCountry_24 ?_
        refine x_get C in_X11_drawCountry_X11 0 rfl rfl 2 (by decide) (List.mem_of_getElem? (i := 1) rfl) rfl (v := .ref (b 38)) rfl dX11_drawCountry_25 ?_
        refine x_get C in_X11_drawCountry_X1 38 rfl rfl 7 (by decide) (List.mem_of_getElem? (i := 4) rfl) rfl (v := .ref (b 43)) rfl dX11_drawCountry_28 ?_
        refine x_iload_n C 0 rfl rfl dX11_drawCountry_31 ?_
        refine x_aload_n C 1 rfl rfl dX11_drawCountry_32 ?_
        refine x_bipush C (15) (by decide) dX11_drawCountry_33 ?_
        refine x_V_I C (As := [.int (iN (15))]) (rest := [.int (iN ((k : Int))), .ref (b 43)]) 1 0 rfl rfl gX11_drawCountry_X11_drawBelow rfl (c_X11_drawBelow _ _ b F N (Ct.set_wa (Ct.set_wy (Ct.set_po N (drP (Ct.po N) sd k)) (drW (Ct.wy N) sd k)) (Ct.wa M)) P hp (sdn sd k) hN hF (15) (by omega)) rfl ok_X11_drawBelow rfl rfl rfl rfl dX11_drawCountry_35 (fun r w1 hp => ?_)
        obtain ⟨rfl, rfl⟩ := hp
        show Wx X 0 0 (WX X.γ b F N (Ct.set_wa (Ct.set_wy (Ct.set_po N (drP (Ct.po N) sd k)) (drW (Ct.wy N) sd k)) (Ct.wa M)) P hp (lcg (sdn sd k))) 38 [(1, .int (iN ((k : Int)))), (0, .ref (b 0))] [.int (iN (lcr (sdn sd k) 15)), .int (iN ((k : Int))), .ref (b 43)]
        have b69 := lcr_b (s := (sdn sd k)) (n := 15) (by omega)
        refine x_iastore C (f := (drP (Ct.po N) sd k)) 43 rfl (by omega) rfl (WX X.γ b F N (Ct.set_wa (Ct.set_wy (Ct.set_po N (upz (drP (Ct.po N) sd k) (k : Int) (lcr (sdn sd k) 15))) (drW (Ct.wy N) sd k)) (Ct.wa M)) P hp (lcg (sdn sd k))) rfl dX11_drawCountry_38 ?_
        refine x_aload_n C 1 rfl rfl dX11_drawCountry_39 ?_
        refine x_get C in_X11_drawCountry_X11 0 rfl rfl 2 (by decide) (List.mem_of_getElem? (i := 1) rfl) rfl (v := .ref (b 38)) rfl dX11_drawCountry_40 ?_
        refine x_get C in_X11_drawCountry_X1 38 rfl rfl 8 (by decide) (List.mem_of_getElem? (i := 5) rfl) rfl (v := .ref (b 44)) rfl dX11_drawCountry_43 ?_
        refine x_iload_n C 0 rfl rfl dX11_drawCountry_46 ?_
        refine x_aload_n C 1 rfl rfl dX11_drawCountry_47 ?_
        refine x_iconst (v := 0) C dX11_drawCountry_48 ?_
        refine x_V_I C (As := [.int (iN (3))]) (rest := [.int (iN ((k : Int))), .ref (b 44)]) 1 0 rfl rfl gX11_drawCountry_X11_drawBelow rfl (c_X11_drawBelow _ _ b F N (Ct.set_wa (Ct.set_wy (Ct.set_po N (upz (drP (Ct.po N) sd k) (k : Int) (lcr (sdn sd k) 15))) (drW (Ct.wy N) sd k)) (Ct.wa M)) P hp (lcg (sdn sd k)) hN hF (3) (by omega)) rfl ok_X11_drawBelow rfl rfl rfl rfl dX11_drawCountry_49 (fun r w1 hp => ?_)
        obtain ⟨rfl, rfl⟩ := hp
        show Wx X 0 0 (WX X.γ b F N (Ct.set_wa (Ct.set_wy (Ct.set_po N (upz (drP (Ct.po N) sd k) (k : Int) (lcr (sdn sd k) 15))) (drW (Ct.wy N) sd k)) (Ct.wa M)) P hp (lcg (lcg (sdn sd k)))) 52 [(1, .int (iN ((k : Int)))), (0, .ref (b 0))] [.int (iN (lcr (lcg (sdn sd k)) 3)), .int (iN ((k : Int))), .ref (b 44)]
        have b70 := lcr_b (s := (lcg (sdn sd k))) (n := 3) (by omega)
        refine x_iconst (v := 0) C dX11_drawCountry_52 ?_
        refine x_isub C dX11_drawCountry_53 ?_
        refine x_iastore C (f := (drW (Ct.wy N) sd k)) 44 rfl (by omega) rfl (WX X.γ b F N (Ct.set_wa (Ct.set_wy (Ct.set_po N (upz (drP (Ct.po N) sd k) (k : Int) (lcr (sdn sd k) 15))) (upz (drW (Ct.wy N) sd k) (k : Int) ((lcr (lcg (sdn sd k)) 3) - 1))) (Ct.wa M)) P hp (lcg (lcg (sdn sd k)))) rfl dX11_drawCountry_54 ?_
        refine x_iinc C 0 [(1, .int (iN ((k : Int) + 1))), (0, .ref (b 0))] rfl rfl (by decide) rfl dX11_drawCountry_55 ?_
        refine x_goto C 13 (by decide) dX11_drawCountry_58 ?_
        exact ih13 (k + 1) _ (by omega) (by omega) (by omega)
  exact LP13 (((Ct.n N).toNat - (0)) + 1) (0) _ (by omega) (by omega) (by omega)
end HXAai
