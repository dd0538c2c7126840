section HXAaa
theorem in_X11_rowRefusal_X11 : ∀ w ∈ u_ws RX11 TX11 6, w ∈ wsX11_rowRefusal := by decide +kernel
theorem in_X11_rowRefusal_X5 : ∀ w ∈ u_ws RX5 TX5 6, w ∈ wsX11_rowRefusal := by decide +kernel
theorem ok_X11_rowRefusal : okY yX11_rowRefusal 1 := by decide +kernel
def rmX11_rowRefusal : Room := { frames := 2, cells := 0, slots := 0, locals := 42 }
set_option maxRecDepth 100000 in
set_option maxHeartbeats 400000 in
theorem c_X11_rowRefusal (l : Launch) (γ : GX) (b : Nat → Nat) (F : Nat → Sh) (N M P : Ct) (hp sd : Int) (hN : WFc N) (hF : ∀ t : Nat, t < 8 → WFs (F t)) (d : Int) (h0_ : -2147483648 ≤ d ∧ d < 2147483648) : MI l γ yX11_rowRefusal wsX11_rowRefusal rmX11_rowRefusal [.ref (b 0), .int (iN (d))] (WX γ b F N M P hp sd) (fun r_ w_ => r_ = (if 0 ≤ d ∧ d ≤ 7 then (if Sh.hd (F d.toNat) = 0 then -11 else if Sh.hd (F d.toNat) = 2 then 0 else -12) else -1) ∧ w_ = WX γ b F N M P hp sd) 0 0 := by
  refine MI.of (cc := cX11_rowRefusal) (maxL := 2) (rt := .int) RX11 rfl (by decide +kernel) rfl (Nat.le_of_ble_eq_true rfl) ?_
  intro X C hγ hl hnm hret
  subst hγ
  have hNn := WFc.n hN
  show Wx X 0 0 (WX X.γ b F N M P hp sd) 0 [(0, .ref (b 0)), (1, .int (iN (d)))] []
  refine x_iload_n C 1 rfl rfl dX11_rowRefusal_0 ?_
  refine x_S_I C (As := [.int (iN (d))]) (rest := []) 1 gX11_rowRefusal_X11_isShelf (c_X11_isShelf _ _ (WX X.γ b F N M P hp sd) (d) (by omega)) rfl ok_X11_isShelf rfl rfl rfl rfl dX11_rowRefusal_1 (fun r w1 hp => ?_)
  obtain ⟨rfl, rfl⟩ := hp
  refine x_ifne_bz C 9 (by decide) dX11_rowRefusal_4 (fun c_4 => ?_) (fun c_4 => ?_)
  · have hFd := hF d.toNat (by omega)
    have hFh : 0 ≤ Sh.hd (F d.toNat) ∧ Sh.hd (F d.toNat) ≤ 2 := hFd.1
    refine x_aload_n C 0 rfl rfl dX11_rowRefusal_9 ?_
    refine x_get C in_X11_rowRefusal_X11 0 rfl rfl 0 (by decide) (List.mem_of_getElem? (i := 1) rfl) rfl (v := .ref (b 1)) rfl dX11_rowRefusal_10 ?_
    refine x_iload_n C 1 rfl rfl dX11_rowRefusal_13 ?_
    refine x_aaload C (f := fun k => some (b (2 + 2 * k.toNat))) (b := b (2 + 2 * d.toNat)) 1 rfl (by omega) rfl rfl dX11_rowRefusal_14 ?_
    refine x_get C in_X11_rowRefusal_X5 (2 + 2 * d.toNat) (WX_so _ _ _ _ _ _ _ (show d.toNat < 8 by omega)) rfl 0 (by decide) (List.mem_of_getElem? (i := 2) rfl) rfl (v := .int (iN (Sh.hd (F d.toNat)))) rfl dX11_rowRefusal_15 ?_
    refine x_if_ne C 24 (by decide) (by omega) dX11_rowRefusal_18 (fun c_18 => ?_) (fun c_18 => ?_)
    · refine x_aload_n C 0 rfl rfl dX11_rowRefusal_24 ?_
      refine x_get C in_X11_rowRefusal_X11 0 rfl rfl 0 (by decide) (List.mem_of_getElem? (i := 1) rfl) rfl (v := .ref (b 1)) rfl dX11_rowRefusal_25 ?_
      refine x_iload_n C 1 rfl rfl dX11_rowRefusal_28 ?_
      refine x_aaload C (f := fun k => some (b (2 + 2 * k.toNat))) (b := b (2 + 2 * d.toNat)) 1 rfl (by omega) rfl rfl dX11_rowRefusal_29 ?_
      refine x_get C in_X11_rowRefusal_X5 (2 + 2 * d.toNat) (WX_so _ _ _ _ _ _ _ (show d.toNat < 8 by omega)) rfl 0 (by decide) (List.mem_of_getElem? (i := 2) rfl) rfl (v := .int (iN (Sh.hd (F d.toNat)))) rfl dX11_rowRefusal_30 ?_
      refine x_iconst (v := 0) C dX11_rowRefusal_33 ?_
      refine x_icmp_ne C 41 (by decide) (by omega) dX11_rowRefusal_34 (fun c_34 => ?_) (fun c_34 => ?_)
      · refine x_bipush C (-12) (by decide) dX11_rowRefusal_41 ?_
        exact hret _ _ _ _ dX11_rowRefusal_43 rfl ⟨(by omega), rfl⟩
      · refine x_iconst (v := 0) C dX11_rowRefusal_37 ?_
        refine x_goto C 43 (by decide) dX11_rowRefusal_38 ?_
        exact hret _ _ _ _ dX11_rowRefusal_43 rfl ⟨(by omega), rfl⟩
    · refine x_bipush C (-11) (by decide) dX11_rowRefusal_21 ?_
      exact hret _ _ _ _ dX11_rowRefusal_23 rfl ⟨(by omega), rfl⟩
  · refine x_iconst (v := 0) C dX11_rowRefusal_7 ?_
    exact hret _ _ _ _ dX11_rowRefusal_8 rfl ⟨(by omega), rfl⟩
end HXAaa
