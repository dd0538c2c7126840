section HXGad
theorem in_X11_keep_X11 : ∀ w ∈ u_ws RX11 TX11 6, w ∈ wsX11_keep := by decide +kernel
theorem ok_X11_keep : okY yX11_keep 4 := by decide +kernel
def rmX11_keep : Room := { frames := 2, cells := 0, slots := 0, locals := 42 }
set_option maxRecDepth 100000 in
set_option maxHeartbeats 400000 in
theorem c_X11_keep (l : Launch) (γ : GX) (b : Nat → Nat) (F : Nat → Sh) (N M P : Ct) (hp sd : Int) (hN : WFc N) (hF : ∀ t : Nat, t < 8 → WFs (F t)) (d : Int) (w : Int) (k : Int) (fg : Int) (h0_ : -2147483648 ≤ d ∧ d < 2147483648) (h1_ : -2147483648 ≤ w ∧ w < 2147483648) (h2_ : -2147483648 ≤ k ∧ k < 2147483648) (h3_ : -2147483648 ≤ fg ∧ fg < 2147483648) : MI l γ yX11_keep wsX11_keep rmX11_keep [.ref (b 0), .int (iN (d)), .int (iN (w)), .int (iN (k)), .int (iN (fg))] (WX γ b F N M P hp sd) (fun r_ w_ => (((0 ≤ d ∧ d ≤ 7) ∧ (0 ≤ w ∧ w ≤ 1) ∧ (w ≠ 1 ∨ ((0 ≤ k ∧ k ≤ 7) ∧ 0 ≤ fg ∧ fg ≤ 9))) ∧ r_ = 0 ∧ Wc γ b (upF F d.toNat (if w = 1 then Sh.set_fg (Sh.set_kd (Sh.set_hd (F d.toNat) 1) k) fg else Sh.set_hd (F d.toNat) 0)) N P hp w_) ∨ (¬ ((0 ≤ d ∧ d ≤ 7) ∧ (0 ≤ w ∧ w ≤ 1) ∧ (w ≠ 1 ∨ ((0 ≤ k ∧ k ≤ 7) ∧ 0 ≤ fg ∧ fg ≤ 9))) ∧ r_ = -1 ∧ Wc γ b F N P hp w_)) 0 0 := by
  refine MI.of (cc := cX11_keep) (maxL := 5) (rt := .int) RX11 rfl (by decide +kernel) rfl (Nat.le_of_ble_eq_true rfl) ?_
  intro X C hγ hl hnm hret
  subst hγ
  have hNn := WFc.n hN
  show Wx X 0 0 (WX X.γ b F N M P hp sd) 0 [(0, .ref (b 0)), (1, .int (iN (d))), (2, .int (iN (w))), (3, .int (iN (k))), (4, .int (iN (fg)))] []
  refine x_iload_n C 1 rfl rfl dX11_keep_0 ?_
  refine x_S_I C (As := [.int (iN (d))]) (rest := []) 1 gX11_keep_X11_isShelf (c_X11_isShelf _ _ (WX X.γ b F N M P hp sd) (d) (by omega)) rfl ok_X11_isShelf rfl rfl rfl rfl dX11_keep_1 (fun r w1 hp => ?_)
  obtain ⟨rfl, rfl⟩ := hp
  refine x_ifeq_bz C 16 (by decide) dX11_keep_4 (fun c_4 => ?_) (fun c_4 => ?_)
  · refine x_iconst (v := 0) C dX11_keep_16 ?_
    exact hret _ _ _ _ dX11_keep_17 rfl (Or.inr ⟨(by omega), rfl, ⟨(Ct.wa N), (Ct.wa P), _, _, rfl⟩⟩)
  · refine x_iload_n C 2 rfl rfl dX11_keep_7 ?_
    refine x_iconst (v := 0) C dX11_keep_8 ?_
    refine x_iconst (v := 0) C dX11_keep_9 ?_
    refine x_S_I C (As := [.int (iN (w)), .int (iN (0)), .int (iN (1))]) (rest := []) 3 gX11_keep_X11_isWithin (c_X11_isWithin _ _ (WX X.γ b F N M P hp sd) (w) (0) (1) (by omega) (by omega) (by omega)) rfl ok_X11_isWithin rfl rfl rfl rfl dX11_keep_10 (fun r w1 hp => ?_)
    obtain ⟨rfl, rfl⟩ := hp
    refine x_ifne_bz C 18 (by decide) dX11_keep_13 (fun c_13 => ?_) (fun c_13 => ?_)
    · refine x_iload_n C 2 rfl rfl dX11_keep_18 ?_
      refine x_if_ne C 33 (by decide) (by omega) dX11_keep_19 (fun c_19 => ?_) (fun c_19 => ?_)
      · refine x_iload_n C 3 rfl rfl dX11_keep_33 ?_
        refine x_iconst (v := 0) C dX11_keep_34 ?_
        refine x_bipush C (7) (by decide) dX11_keep_35 ?_
        refine x_S_I C (As := [.int (iN (k)), .int (iN (0)), .int (iN (7))]) (rest := []) 3 gX11_keep_X11_isWithin (c_X11_isWithin _ _ (WX X.γ b F N M P hp sd) (k) (0) (7) (by omega) (by omega) (by omega)) rfl ok_X11_isWithin rfl rfl rfl rfl dX11_keep_37 (fun r w1 hp => ?_)
        obtain ⟨rfl, rfl⟩ := hp
        refine x_ifeq_bz C 54 (by decide) dX11_keep_40 (fun c_40 => ?_) (fun c_40 => ?_)
        · refine x_iconst (v := 0) C dX11_keep_54 ?_
          exact hret _ _ _ _ dX11_keep_55 rfl (Or.inr ⟨(by omega), rfl, ⟨(Ct.wa N), (Ct.wa P), _, _, rfl⟩⟩)
        · refine x_iload C 4 rfl dX11_keep_43 ?_
          refine x_iconst (v := 0) C dX11_keep_45 ?_
          refine x_bipush C (9) (by decide) dX11_keep_46 ?_
          refine x_S_I C (As := [.int (iN (fg)), .int (iN (0)), .int (iN (9))]) (rest := []) 3 gX11_keep_X11_isWithin (c_X11_isWithin _ _ (WX X.γ b F N M P hp sd) (fg) (0) (9) (by omega) (by omega) (by omega)) rfl ok_X11_isWithin rfl rfl rfl rfl dX11_keep_48 (fun r w1 hp => ?_)
          obtain ⟨rfl, rfl⟩ := hp
          refine x_ifne_bz C 56 (by decide) dX11_keep_51 (fun c_51 => ?_) (fun c_51 => ?_)
          · refine x_aload_n C 0 rfl rfl dX11_keep_56 ?_
            refine x_get C in_X11_keep_X11 0 rfl rfl 0 (by decide) (List.mem_of_getElem? (i := 1) rfl) rfl (v := .ref (b 1)) rfl dX11_keep_57 ?_
            refine x_iload_n C 1 rfl rfl dX11_keep_60 ?_
            refine x_aaload C (f := fun k => some (b (2 + 2 * k.toNat))) (b := b (2 + 2 * d.toNat)) 1 rfl (by omega) rfl rfl dX11_keep_61 ?_
            refine x_iload_n C 3 rfl rfl dX11_keep_62 ?_
            refine x_iload C 4 rfl dX11_keep_63 ?_
            refine x_V_V C (As := [.int (iN (k)), .int (iN (fg))]) (rest := []) 2 (2 + 2 * d.toNat) (WX_so _ _ _ _ _ _ _ (show d.toNat < 8 by omega)) rfl gX11_keep_X5_holdKind rfl (MV.sh b F N M P hp sd d.toNat (show d.toNat < 8 by omega) (fun Z => Z = Sh.set_fg (Sh.set_kd (Sh.set_hd (F d.toNat) 1) k) fg) (c_X5_holdKind _ _ (saD b d.toNat) (F d.toNat) (k) (fg)) (fun w h => ⟨_, rfl, h⟩)) rfl ok_X5_holdKind rfl rfl rfl rfl dX11_keep_65 (fun w1 hp => ?_)
            obtain ⟨_, rfl, rfl⟩ := hp
            refine x_iconst (v := 0) C dX11_keep_68 ?_
            exact hret _ _ _ _ dX11_keep_69 rfl (Or.inl ⟨(by omega), rfl, (by rw [if_pos (show w = 1 by omega)]; exact ⟨(Ct.wa N), (Ct.wa P), _, _, rfl⟩)⟩)
          · refine x_iconst (v := 0) C dX11_keep_54 ?_
            exact hret _ _ _ _ dX11_keep_55 rfl (Or.inr ⟨(by omega), rfl, ⟨(Ct.wa N), (Ct.wa P), _, _, rfl⟩⟩)
      · refine x_aload_n C 0 rfl rfl dX11_keep_22 ?_
        refine x_get C in_X11_keep_X11 0 rfl rfl 0 (by decide) (List.mem_of_getElem? (i := 1) rfl) rfl (v := .ref (b 1)) rfl dX11_keep_23 ?_
        refine x_iload_n C 1 rfl rfl dX11_keep_26 ?_
        refine x_aaload C (f := fun k => some (b (2 + 2 * k.toNat))) (b := b (2 + 2 * d.toNat)) 1 rfl (by omega) rfl rfl dX11_keep_27 ?_
        refine x_V_V C (As := []) (rest := []) 0 (2 + 2 * d.toNat) (WX_so _ _ _ _ _ _ _ (show d.toNat < 8 by omega)) rfl gX11_keep_X5_holdNothing rfl (MV.sh b F N M P hp sd d.toNat (show d.toNat < 8 by omega) (fun Z => Z = Sh.set_hd (F d.toNat) 0) (c_X5_holdNothing _ _ (saD b d.toNat) (F d.toNat) ) (fun w h => ⟨_, rfl, h⟩)) rfl ok_X5_holdNothing rfl rfl rfl rfl dX11_keep_28 (fun w1 hp => ?_)
        obtain ⟨_, rfl, rfl⟩ := hp
        refine x_iconst (v := 0) C dX11_keep_31 ?_
        exact hret _ _ _ _ dX11_keep_32 rfl (Or.inl ⟨(by omega), rfl, (by rw [if_neg (show ¬ w = 1 by omega)]; exact ⟨(Ct.wa N), (Ct.wa P), _, _, rfl⟩)⟩)
    · refine x_iconst (v := 0) C dX11_keep_16 ?_
      exact hret _ _ _ _ dX11_keep_17 rfl (Or.inr ⟨(by omega), rfl, ⟨(Ct.wa N), (Ct.wa P), _, _, rfl⟩⟩)
end HXGad
