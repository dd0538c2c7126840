section HXAah
theorem in_X11_drawBelow_X11 : ∀ w ∈ u_ws RX11 TX11 6, w ∈ wsX11_drawBelow := by decide +kernel
theorem ok_X11_drawBelow : okY yX11_drawBelow 1 := by decide +kernel
def rmX11_drawBelow : Room := { frames := 0, cells := 0, slots := 0, locals := 0 }
set_option maxRecDepth 100000 in
set_option maxHeartbeats 400000 in
theorem c_X11_drawBelow (l : Launch) (γ : GX) (b : Nat → Nat) (F : Nat → Sh) (N M P : Ct) (hp sd : Int) (hN : WFc N) (hF : ∀ t : Nat, t < 8 → WFs (F t)) (m : Int) (h0_ : 0 < m ∧ m ≤ 100) : MI l γ yX11_drawBelow wsX11_drawBelow rmX11_drawBelow [.ref (b 0), .int (iN (m))] (WX γ b F N M P hp sd) (fun r_ w_ => r_ = lcr sd m ∧ w_ = WX γ b F N M P hp (lcg sd)) 0 0 := by
  refine MI.of (cc := cX11_drawBelow) (maxL := 2) (rt := .int) RX11 rfl (by decide +kernel) rfl (Nat.le_of_ble_eq_true rfl) ?_
  intro X C hγ hl hnm hret
  subst hγ
  have hNn := WFc.n hN
  show Wx X 0 0 (WX X.γ b F N M P hp sd) 0 [(0, .ref (b 0)), (1, .int (iN (m)))] []
  refine x_aload_n C 0 rfl rfl dX11_drawBelow_0 ?_
  refine x_aload_n C 0 rfl rfl dX11_drawBelow_1 ?_
  refine x_get C in_X11_drawBelow_X11 0 rfl rfl 5 (by decide) (List.mem_of_getElem? (i := 1) rfl) rfl (v := .int (iN (sd))) rfl dX11_drawBelow_2 ?_
  refine x_ldcw C (1103515245) (List.mem_of_getElem? (i := 2) rfl) (by decide) dX11_drawBelow_5 ?_
  refine x_imul C dX11_drawBelow_8 ?_
  refine x_sipush C (12345) (by decide) dX11_drawBelow_9 ?_
  refine x_iadd C dX11_drawBelow_12 ?_
  refine x_put C in_X11_drawBelow_X11 tyX11 tyX11_ok nmX11 0 rfl rfl 5 (by decide) (List.mem_of_getElem? (i := 1) rfl) rfl rfl rfl rfl rfl (Nat.le_of_ble_eq_true rfl) (WX X.γ b F N M P hp ((sd * 1103515245) + 12345)) rfl dX11_drawBelow_13 ?_
  refine x_iload_n C 1 rfl rfl dX11_drawBelow_16 ?_
  refine x_iconst (v := 0) C dX11_drawBelow_17 ?_
  refine x_icmp_ge C 25 (by decide) (by omega) dX11_drawBelow_18 (fun c_18 => ?_) (fun c_18 => ?_)
  · refine x_aload_n C 0 rfl rfl dX11_drawBelow_25 ?_
    refine x_get C in_X11_drawBelow_X11 0 rfl rfl 5 (by decide) (List.mem_of_getElem? (i := 1) rfl) rfl (v := .int (iN ((sd * 1103515245) + 12345))) rfl dX11_drawBelow_26 ?_
    refine x_ldcw C (2147483647) (List.mem_of_getElem? (i := 3) rfl) (by decide) dX11_drawBelow_29 ?_
    refine x_iand C (((sd * 1103515245) + 12345) % 2147483648) (iN_and31 _) dX11_drawBelow_32 ?_
    refine x_ldcw C (65536) (List.mem_of_getElem? (i := 4) rfl) (by decide) dX11_drawBelow_33 ?_
    refine x_idiv C (by omega) dX11_drawBelow_36 ?_
    refine x_iload_n C 1 rfl rfl dX11_drawBelow_37 ?_
    refine x_irem C (by omega) dX11_drawBelow_38 ?_
    exact hret _ _ _ _ dX11_drawBelow_39 rfl ⟨rfl, rfl⟩
  · refine x_iconst (v := 0) C dX11_drawBelow_21 ?_
    refine x_goto C 39 (by decide) dX11_drawBelow_22 ?_
    exact hret _ _ _ _ dX11_drawBelow_39 rfl (absurd c_18 (by omega))
end HXAah
