section HXGaf
theorem in_X11_put_X11 : ∀ w ∈ u_ws RX11 TX11 6, w ∈ wsX11_put := by decide +kernel
theorem ok_X11_put : okY yX11_put 3 := by decide +kernel
def rmX11_put : Room := { frames := 3, cells := 0, slots := 0, locals := 63 }
set_option maxRecDepth 100000 in
set_option maxHeartbeats 400000 in
theorem c_X11_put (l : Launch) (γ : GX) (b : Nat → Nat) (F : Nat → Sh) (N M P : Ct) (hp sd : Int) (hN : WFc N) (hF : ∀ t : Nat, t < 8 → WFs (F t)) (d : Int) (i : Int) (v : Int) (h0_ : -2147483648 ≤ d ∧ d < 2147483648) (h1_ : -2147483648 ≤ i ∧ i < 2147483648) (h2_ : -2147483648 ≤ v ∧ v < 2147483648) : MI l γ yX11_put wsX11_put rmX11_put [.ref (b 0), .int (iN (d)), .int (iN (i)), .int (iN (v))] (WX γ b F N M P hp sd) (fun r_ w_ => (((0 ≤ d ∧ d ≤ 7) ∧ Sh.hd (F d.toNat) = 2 ∧ 0 ≤ i ∧ i ≤ Sh.sz (F d.toNat) - 1) ∧ r_ = 0 ∧ Wc γ b (upF F d.toNat (Sh.set_va (F d.toNat) (upz (Sh.va (F d.toNat)) i (nar (Sh.so (F d.toNat)) v)))) N P hp w_) ∨ (¬ ((0 ≤ d ∧ d ≤ 7) ∧ Sh.hd (F d.toNat) = 2 ∧ 0 ≤ i ∧ i ≤ Sh.sz (F d.toNat) - 1) ∧ r_ = q_wr d (Sh.hd (F d.toNat)) 2 (-13) ∧ Wc γ b F N P hp w_)) 0 0 := by
  refine MI.of (cc := cX11_put) (maxL := 5) (rt := .int) RX11 rfl (by decide +kernel) rfl (Nat.le_of_ble_eq_true rfl) ?_
  intro X C hγ hl hnm hret
  subst hγ
  have hNn := WFc.n hN
  show Wx X 0 0 (WX X.γ b F N M P hp sd) 0 [(0, .ref (b 0)), (1, .int (iN (d))), (2, .int (iN (i))), (3, .int (iN (v)))] []
  refine x_aload_n C 0 rfl rfl dX11_put_0 ?_
  refine x_iload_n C 1 rfl rfl dX11_put_1 ?_
  refine x_V_I C (As := [.int (iN (d))]) (rest := []) 1 0 rfl rfl gX11_put_X11_rowRefusal rfl (c_X11_rowRefusal _ _ b F N M P hp sd hN hF (d) (by omega)) rfl ok_X11_rowRefusal rfl rfl rfl rfl dX11_put_2 (fun r w1 hp => ?_)
  obtain ⟨rfl, rfl⟩ := hp
  show Wx X 0 0 (WX X.γ b F N M P hp sd) 5 [(0, .ref (b 0)), (1, .int (iN (d))), (2, .int (iN (i))), (3, .int (iN (v)))] [.int (iN (if 0 ≤ d ∧ d ≤ 7 then (if Sh.hd (F d.toNat) = 0 then -11 else if Sh.hd (F d.toNat) = 2 then 0 else -12) else -1))]
  refine x_istore C [(4, .int (iN (if 0 ≤ d ∧ d ≤ 7 then (if Sh.hd (F d.toNat) = 0 then -11 else if Sh.hd (F d.toNat) = 2 then 0 else -12) else -1))), (0, .ref (b 0)), (1, .int (iN (d))), (2, .int (iN (i))), (3, .int (iN (v)))] (by decide) rfl dX11_put_5 ?_
  refine x_iload C 0 rfl dX11_put_7 ?_
  refine x_if_ge C 15 (by decide) (by omega) dX11_put_9 (fun c_9 => ?_) (fun c_9 => ?_)
  · have hFd := hF d.toNat (by omega)
    have hSz := WFs.sz hFd
    refine x_aload_n C 1 rfl rfl dX11_put_15 ?_
    refine x_get C in_X11_put_X11 0 rfl rfl 0 (by decide) (List.mem_of_getElem? (i := 1) rfl) rfl (v := .ref (b 1)) rfl dX11_put_16 ?_
    refine x_iload_n C 2 rfl rfl dX11_put_19 ?_
    refine x_aaload C (f := fun k => some (b (2 + 2 * k.toNat))) (b := b (2 + 2 * d.toNat)) 1 rfl (by omega) rfl rfl dX11_put_20 ?_
    refine x_iload_n C 3 rfl rfl dX11_put_21 ?_
    refine x_iconst (v := 0) C dX11_put_22 ?_
    refine x_V_I C (As := [.int (iN (i)), .int (iN (1))]) (rest := []) 2 (2 + 2 * d.toNat) (WX_so _ _ _ _ _ _ _ (show d.toNat < 8 by omega)) rfl gX11_put_X5_hasPlaces rfl (MI.shr b F N M P hp sd d.toNat (show d.toNat < 8 by omega) (fun r => r = (bz ((0 ≤ 1 ∧ 1 ≤ Sh.sz (F d.toNat)) ∧ 0 ≤ i ∧ i ≤ Sh.sz (F d.toNat) - 1))) (c_X5_hasPlaces _ _ (saD b d.toNat) (F d.toNat) (hF d.toNat (by omega)) (i) (1) (by omega) (by omega)) (fun r w h => ⟨h.1, h.2⟩)) rfl ok_X5_hasPlaces rfl rfl rfl rfl dX11_put_23 (fun r w1 hp => ?_)
    obtain ⟨rfl, rfl⟩ := hp
    refine x_ifne_bz C 32 (by decide) dX11_put_26 (fun c_26 => ?_) (fun c_26 => ?_)
    · refine x_aload_n C 1 rfl rfl dX11_put_32 ?_
      refine x_get C in_X11_put_X11 0 rfl rfl 0 (by decide) (List.mem_of_getElem? (i := 1) rfl) rfl (v := .ref (b 1)) rfl dX11_put_33 ?_
      refine x_iload_n C 2 rfl rfl dX11_put_36 ?_
      refine x_aaload C (f := fun k => some (b (2 + 2 * k.toNat))) (b := b (2 + 2 * d.toNat)) 1 rfl (by omega) rfl rfl dX11_put_37 ?_
      refine x_iload_n C 3 rfl rfl dX11_put_38 ?_
      refine x_iload_n C 4 rfl rfl dX11_put_39 ?_
      refine x_V_V C (As := [.int (iN (i)), .int (iN (v))]) (rest := []) 2 (2 + 2 * d.toNat) (WX_so _ _ _ _ _ _ _ (show d.toNat < 8 by omega)) rfl gX11_put_X5_store rfl (MV.sh b F N M P hp sd d.toNat (show d.toNat < 8 by omega) (fun Z => Z = Sh.set_va (F d.toNat) (upz (Sh.va (F d.toNat)) i (nar (Sh.so (F d.toNat)) v))) (c_X5_store _ _ (saD b d.toNat) (F d.toNat) (hF d.toNat (by omega)) (i) (v) (by omega) (by omega)) (fun w h => ⟨_, rfl, h⟩)) rfl ok_X5_store rfl rfl rfl rfl dX11_put_40 (fun w1 hp => ?_)
      obtain ⟨_, rfl, rfl⟩ := hp
      refine x_iconst (v := 0) C dX11_put_43 ?_
      exact hret _ _ _ _ dX11_put_44 rfl (Or.inl ⟨(by omega), rfl, ⟨(Ct.wa N), (Ct.wa P), _, _, rfl⟩⟩)
    · refine x_bipush C (-13) (by decide) dX11_put_29 ?_
      exact hret _ _ _ _ dX11_put_31 rfl (Or.inr ⟨(by omega), (by unfold q_wr; omega), ⟨(Ct.wa N), (Ct.wa P), _, _, rfl⟩⟩)
  · refine x_iload C 0 rfl dX11_put_12 ?_
    exact hret _ _ _ _ dX11_put_14 rfl (Or.inr ⟨(by omega), (by unfold q_wr; omega), ⟨(Ct.wa N), (Ct.wa P), _, _, rfl⟩⟩)
end HXGaf
