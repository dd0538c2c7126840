section HXGae
theorem in_X11_row_X11 : ∀ w ∈ u_ws RX11 TX11 6, w ∈ wsX11_row := by decide +kernel
theorem ok_X11_row : okY yX11_row 3 := by decide +kernel
def rmX11_row : Room := { frames := 2, cells := 0, slots := 0, locals := 45 }
set_option maxRecDepth 100000 in
set_option maxHeartbeats 400000 in
theorem c_X11_row (l : Launch) (γ : GX) (b : Nat → Nat) (F : Nat → Sh) (N M P : Ct) (hp sd : Int) (hN : WFc N) (hF : ∀ t : Nat, t < 8 → WFs (F t)) (d : Int) (so : Int) (m : Int) (h0_ : -2147483648 ≤ d ∧ d < 2147483648) (h1_ : -2147483648 ≤ so ∧ so < 2147483648) (h2_ : -2147483648 ≤ m ∧ m < 2147483648) : MI l γ yX11_row wsX11_row rmX11_row [.ref (b 0), .int (iN (d)), .int (iN (so)), .int (iN (m))] (WX γ b F N M P hp sd) (fun r_ w_ => (((0 ≤ d ∧ d ≤ 7) ∧ (0 ≤ so ∧ so ≤ 2) ∧ m ≤ 100) ∧ 0 ≤ m ∧ r_ = 0 ∧ Wc γ b (upF F d.toNat (Sh.set_va (Sh.set_sz (Sh.set_so (Sh.set_hd (F d.toNat) 2) so) m) (fun _ => 0))) N P hp w_) ∨ (((0 ≤ d ∧ d ≤ 7) ∧ (0 ≤ so ∧ so ≤ 2) ∧ m ≤ 100) ∧ m < 0 ∧ r_ = -14 ∧ Wc γ b F N P hp w_) ∨ (¬ ((0 ≤ d ∧ d ≤ 7) ∧ (0 ≤ so ∧ so ≤ 2) ∧ m ≤ 100) ∧ r_ = -1 ∧ Wc γ b F N P hp w_)) 0 0 := by
  refine MI.of (cc := cX11_row) (maxL := 4) (rt := .int) RX11 rfl (by decide +kernel) rfl (Nat.le_of_ble_eq_true rfl) ?_
  intro X C hγ hl hnm hret
  subst hγ
  have hNn := WFc.n hN
  show Wx X 0 0 (WX X.γ b F N M P hp sd) 0 [(0, .ref (b 0)), (1, .int (iN (d))), (2, .int (iN (so))), (3, .int (iN (m)))] []
  refine x_iload_n C 1 rfl rfl dX11_row_0 ?_
  refine x_S_I C (As := [.int (iN (d))]) (rest := []) 1 gX11_row_X11_isShelf (c_X11_isShelf _ _ (WX X.γ b F N M P hp sd) (d) (by omega)) rfl ok_X11_isShelf rfl rfl rfl rfl dX11_row_1 (fun r w1 hp => ?_)
  obtain ⟨rfl, rfl⟩ := hp
  refine x_ifeq_bz C 22 (by decide) dX11_row_4 (fun c_4 => ?_) (fun c_4 => ?_)
  · refine x_iconst (v := 0) C dX11_row_22 ?_
    exact hret _ _ _ _ dX11_row_23 rfl (Or.inr (Or.inr ⟨(by omega), rfl, ⟨(Ct.wa N), (Ct.wa P), _, _, rfl⟩⟩))
  · refine x_iload_n C 2 rfl rfl dX11_row_7 ?_
    refine x_iconst (v := 0) C dX11_row_8 ?_
    refine x_iconst (v := 0) C dX11_row_9 ?_
    refine x_S_I C (As := [.int (iN (so)), .int (iN (0)), .int (iN (2))]) (rest := []) 3 gX11_row_X11_isWithin (c_X11_isWithin _ _ (WX X.γ b F N M P hp sd) (so) (0) (2) (by omega) (by omega) (by omega)) rfl ok_X11_isWithin rfl rfl rfl rfl dX11_row_10 (fun r w1 hp => ?_)
    obtain ⟨rfl, rfl⟩ := hp
    refine x_ifeq_bz C 22 (by decide) dX11_row_13 (fun c_13 => ?_) (fun c_13 => ?_)
    · refine x_iconst (v := 0) C dX11_row_22 ?_
      exact hret _ _ _ _ dX11_row_23 rfl (Or.inr (Or.inr ⟨(by omega), rfl, ⟨(Ct.wa N), (Ct.wa P), _, _, rfl⟩⟩))
    · refine x_iload_n C 3 rfl rfl dX11_row_16 ?_
      refine x_bipush C (100) (by decide) dX11_row_17 ?_
      refine x_icmp_le C 24 (by decide) (by omega) dX11_row_19 (fun c_19 => ?_) (fun c_19 => ?_)
      · refine x_iload_n C 3 rfl rfl dX11_row_24 ?_
        refine x_if_ge C 31 (by decide) (by omega) dX11_row_25 (fun c_25 => ?_) (fun c_25 => ?_)
        · refine x_aload_n C 0 rfl rfl dX11_row_31 ?_
          refine x_get C in_X11_row_X11 0 rfl rfl 0 (by decide) (List.mem_of_getElem? (i := 1) rfl) rfl (v := .ref (b 1)) rfl dX11_row_32 ?_
          refine x_iload_n C 1 rfl rfl dX11_row_35 ?_
          refine x_aaload C (f := fun k => some (b (2 + 2 * k.toNat))) (b := b (2 + 2 * d.toNat)) 1 rfl (by omega) rfl rfl dX11_row_36 ?_
          refine x_iload_n C 2 rfl rfl dX11_row_37 ?_
          refine x_iload_n C 3 rfl rfl dX11_row_38 ?_
          refine x_V_V C (As := [.int (iN (so)), .int (iN (m))]) (rest := []) 2 (2 + 2 * d.toNat) (WX_so _ _ _ _ _ _ _ (show d.toNat < 8 by omega)) rfl gX11_row_X5_holdRow rfl (MV.sh b F N M P hp sd d.toNat (show d.toNat < 8 by omega) (fun Z => Z = Sh.set_va (Sh.set_sz (Sh.set_so (Sh.set_hd (F d.toNat) 2) so) m) (fun _ => 0)) (c_X5_holdRow _ _ (saD b d.toNat) (F d.toNat) (so) (m)) (fun w h => ⟨_, rfl, h⟩)) rfl ok_X5_holdRow rfl rfl rfl rfl dX11_row_39 (fun w1 hp => ?_)
          obtain ⟨_, rfl, rfl⟩ := hp
          refine x_iconst (v := 0) C dX11_row_42 ?_
          exact hret _ _ _ _ dX11_row_43 rfl (Or.inl ⟨(by omega), (by omega), rfl, ⟨(Ct.wa N), (Ct.wa P), _, _, rfl⟩⟩)
        · refine x_bipush C (-14) (by decide) dX11_row_28 ?_
          exact hret _ _ _ _ dX11_row_30 rfl (Or.inr (Or.inl ⟨(by omega), (by omega), rfl, ⟨(Ct.wa N), (Ct.wa P), _, _, rfl⟩⟩))
      · refine x_iconst (v := 0) C dX11_row_22 ?_
        exact hret _ _ _ _ dX11_row_23 rfl (Or.inr (Or.inr ⟨(by omega), rfl, ⟨(Ct.wa N), (Ct.wa P), _, _, rfl⟩⟩))
end HXGae
