section HXCav
theorem in_X11_comes_X1 : ∀ w ∈ u_ws RX1 TX1 13, w ∈ wsX11_comes := by decide +kernel
theorem in_X11_comes_X11 : ∀ w ∈ u_ws RX11 TX11 6, w ∈ wsX11_comes := by decide +kernel
theorem in_X11_comes_X5 : ∀ w ∈ u_ws RX5 TX5 6, w ∈ wsX11_comes := by decide +kernel
theorem ok_X11_comes : okY yX11_comes 3 := by decide +kernel
def rmX11_comes : Room := { frames := 5, cells := 0, slots := 0, locals := 130 }
set_option maxRecDepth 100000 in
set_option maxHeartbeats 400000 in
theorem c_X11_comes (l : Launch) (γ : GX) (b : Nat → Nat) (F : Nat → Sh) (N M P : Ct) (hp sd : Int) (hN : WFc N) (hF : ∀ t : Nat, t < 8 → WFs (F t)) (d : Int) (ag : Int) (c : Int) (h0_ : -2147483648 ≤ d ∧ d < 2147483648) (h1_ : -2147483648 ≤ ag ∧ ag < 2147483648) (h2_ : -2147483648 ≤ c ∧ c < 2147483648) : MI l γ yX11_comes wsX11_comes rmX11_comes [.ref (b 0), .int (iN (d)), .int (iN (ag)), .int (iN (c))] (WX γ b F N M P hp sd) (fun r_ w_ => ((((0 ≤ ag ∧ ag ≤ 120) ∧ 0 ≤ c ∧ c ≤ 14) ∧ ((0 ≤ d ∧ d ≤ 7) ∧ Sh.hd (F d.toNat) = 1) ∧ Ct.n N < 6) ∧ r_ = Ct.n N ∧ Wc γ b F (Ct.come N (Sh.kd (F d.toNat)) (Sh.fg (F d.toNat)) ag c) P hp w_) ∨ ((((0 ≤ ag ∧ ag ≤ 120) ∧ 0 ≤ c ∧ c ≤ 14) ∧ (0 ≤ d ∧ d ≤ 7) ∧ Sh.hd (F d.toNat) = 1) ∧ ¬ Ct.n N < 6 ∧ r_ = -2 ∧ Wc γ b F N P hp w_) ∨ (¬ (((0 ≤ ag ∧ ag ≤ 120) ∧ 0 ≤ c ∧ c ≤ 14) ∧ (0 ≤ d ∧ d ≤ 7) ∧ Sh.hd (F d.toNat) = 1) ∧ r_ = (if (0 ≤ ag ∧ ag ≤ 120) ∧ 0 ≤ c ∧ c ≤ 14 then (if 0 ≤ d ∧ d ≤ 7 then (if Sh.hd (F d.toNat) = 0 then -11 else if Sh.hd (F d.toNat) = 1 then 0 else -12) else -1) else -1) ∧ Wc γ b F N P hp w_)) 0 0 := by
  refine MI.of (cc := cX11_comes) (maxL := 6) (rt := .int) RX11 rfl (by decide +kernel) rfl (Nat.le_of_ble_eq_true rfl) ?_
  intro X C hγ hl hnm hret
  subst hγ
  have hNn := WFc.n hN
  show Wx X 0 0 (WX X.γ b F N M P hp sd) 0 [(0, .ref (b 0)), (1, .int (iN (d))), (2, .int (iN (ag))), (3, .int (iN (c)))] []
  refine x_iload_n C 2 rfl rfl dX11_comes_0 ?_
  refine x_iconst (v := 0) C dX11_comes_1 ?_
  refine x_bipush C (120) (by decide) dX11_comes_2 ?_
  refine x_S_I C (As := [.int (iN (ag)), .int (iN (0)), .int (iN (120))]) (rest := []) 3 gX11_comes_X11_isWithin (c_X11_isWithin _ _ (WX X.γ b F N M P hp sd) (ag) (0) (120) (by omega) (by omega) (by omega)) rfl ok_X11_isWithin rfl rfl rfl rfl dX11_comes_4 (fun r w1 hp => ?_)
  obtain ⟨rfl, rfl⟩ := hp
  have LP22 : ∀ (s0_22 : Int), (s0_22 = (if (0 ≤ ag ∧ ag ≤ 120) ∧ 0 ≤ c ∧ c ≤ 14 then 1 else 0)) → Wx X 0 0 (WX X.γ b F N M P hp sd) 22 [(0, .ref (b 0)), (1, .int (iN (d))), (2, .int (iN (ag))), (3, .int (iN (c)))] [.int (iN (s0_22))] := by
    intro s0_22 es0_22
    refine x_istore C [(4, .int (iN (s0_22))), (0, .ref (b 0)), (1, .int (iN (d))), (2, .int (iN (ag))), (3, .int (iN (c)))] (by decide) rfl dX11_comes_22 ?_
    refine x_iload C 0 rfl dX11_comes_24 ?_
    have LP38 : ∀ (s0_38 : Int), (s0_38 = (if (0 ≤ ag ∧ ag ≤ 120) ∧ 0 ≤ c ∧ c ≤ 14 then (if 0 ≤ d ∧ d ≤ 7 then (if Sh.hd (F d.toNat) = 0 then -11 else if Sh.hd (F d.toNat) = 1 then 0 else -12) else -1) else -1)) → Wx X 0 0 (WX X.γ b F N M P hp sd) 38 [(4, .int (iN (s0_22))), (0, .ref (b 0)), (1, .int (iN (d))), (2, .int (iN (ag))), (3, .int (iN (c)))] [.int (iN (s0_38))] := by
      intro s0_38 es0_38
      refine x_istore C [(5, .int (iN (s0_38))), (4, .int (iN (s0_22))), (0, .ref (b 0)), (1, .int (iN (d))), (2, .int (iN (ag))), (3, .int (iN (c)))] (by decide) rfl dX11_comes_38 ?_
      refine x_iload C 0 rfl dX11_comes_40 ?_
      refine x_if_ge C 48 (by decide) (by omega) dX11_comes_42 (fun c_42 => ?_) (fun c_42 => ?_)
      · have hFd := hF d.toNat (by omega)
        have hFk : 0 ≤ Sh.kd (F d.toNat) ∧ Sh.kd (F d.toNat) ≤ 7 := hFd.2.1
        have hFf : 0 ≤ Sh.fg (F d.toNat) ∧ Sh.fg (F d.toNat) ≤ 9 := hFd.2.2.1
        refine x_aload_n C 2 rfl rfl dX11_comes_48 ?_
        refine x_get C in_X11_comes_X11 0 rfl rfl 1 (by decide) (List.mem_of_getElem? (i := 1) rfl) rfl (v := .ref (b 27)) rfl dX11_comes_49 ?_
        refine x_aload_n C 2 rfl rfl dX11_comes_52 ?_
        refine x_get C in_X11_comes_X11 0 rfl rfl 0 (by decide) (List.mem_of_getElem? (i := 2) rfl) rfl (v := .ref (b 1)) rfl dX11_comes_53 ?_
        refine x_iload_n C 3 rfl rfl dX11_comes_56 ?_
        refine x_aaload C (f := fun k => some (b (2 + 2 * k.toNat))) (b := b (2 + 2 * d.toNat)) 1 rfl (by omega) rfl rfl dX11_comes_57 ?_
        refine x_get C in_X11_comes_X5 (2 + 2 * d.toNat) (WX_so _ _ _ _ _ _ _ (show d.toNat < 8 by omega)) rfl 1 (by decide) (List.mem_of_getElem? (i := 3) rfl) rfl (v := .int (iN (Sh.kd (F d.toNat)))) rfl dX11_comes_58 ?_
        refine x_aload_n C 2 rfl rfl dX11_comes_61 ?_
        refine x_get C in_X11_comes_X11 0 rfl rfl 0 (by decide) (List.mem_of_getElem? (i := 2) rfl) rfl (v := .ref (b 1)) rfl dX11_comes_62 ?_
        refine x_iload_n C 3 rfl rfl dX11_comes_65 ?_
        refine x_aaload C (f := fun k => some (b (2 + 2 * k.toNat))) (b := b (2 + 2 * d.toNat)) 1 rfl (by omega) rfl rfl dX11_comes_66 ?_
        refine x_get C in_X11_comes_X5 (2 + 2 * d.toNat) (WX_so _ _ _ _ _ _ _ (show d.toNat < 8 by omega)) rfl 2 (by decide) (List.mem_of_getElem? (i := 4) rfl) rfl (v := .int (iN (Sh.fg (F d.toNat)))) rfl dX11_comes_67 ?_
        refine x_iload_n C 4 rfl rfl dX11_comes_70 ?_
        refine x_iload_n C 5 rfl rfl dX11_comes_71 ?_
        refine x_V_I C (As := [.int (iN (Sh.kd (F d.toNat))), .int (iN (Sh.fg (F d.toNat))), .int (iN (ag)), .int (iN (c))]) (rest := []) 4 27 rfl rfl gX11_comes_X1_addWalker rfl (MI.kN b F N M P hp sd (fun r Z => ((Ct.n N < 6 ∧ (0 ≤ c ∧ c ≤ 14) ∧ (0 ≤ (Sh.kd (F d.toNat)) ∧ (Sh.kd (F d.toNat)) ≤ 7) ∧ (0 ≤ (Sh.fg (F d.toNat)) ∧ (Sh.fg (F d.toNat)) ≤ 9) ∧ 0 ≤ ag ∧ ag ≤ 120) ∧ r = 1 ∧ (Ct.set_sr (Ct.set_sp (Ct.set_pr (Ct.set_wy (Ct.set_po (Ct.set_ag (Ct.set_fg (Ct.set_kd (Ct.set_n N ((Ct.n N) + 1)) (upz (Ct.kd N) (Ct.n N) (Sh.kd (F d.toNat)))) (upz (Ct.fg N) (Ct.n N) (Sh.fg (F d.toNat)))) (upz (Ct.ag N) (Ct.n N) ag)) (upz (Ct.po N) (Ct.n N) c)) (upz (Ct.wy N) (Ct.n N) 0)) (upz (Ct.pr N) (Ct.n N) (prF (Sh.kd (F d.toNat)) (Sh.fg (F d.toNat)) ag))) (upz (Ct.sp N) (Ct.n N) (spF (Sh.kd (F d.toNat))))) (upz (Ct.sr N) (Ct.n N) (srF (Sh.kd (F d.toNat)) (Sh.fg (F d.toNat))))) = Z) ∨ (¬ (Ct.n N < 6 ∧ (0 ≤ c ∧ c ≤ 14) ∧ (0 ≤ (Sh.kd (F d.toNat)) ∧ (Sh.kd (F d.toNat)) ≤ 7) ∧ (0 ≤ (Sh.fg (F d.toNat)) ∧ (Sh.fg (F d.toNat)) ≤ 9) ∧ 0 ≤ ag ∧ ag ≤ 120) ∧ r = 0 ∧ N = Z)) (c_X1_addWalker _ _ (adN b) N hN (Sh.kd (F d.toNat)) (Sh.fg (F d.toNat)) (ag) (c) (by omega) (by omega) (by omega) (by omega)) (fun r w h => h.elim (fun h => ⟨_, Or.inl ⟨h.1, h.2.1, rfl⟩, h.2.2⟩) (fun h => ⟨_, Or.inr ⟨h.1, h.2.1, rfl⟩, h.2.2⟩))) rfl ok_X1_addWalker rfl rfl rfl rfl dX11_comes_72 (fun r w1 hp => ?_)
        rcases hp with ⟨_, (⟨hp1, rfl, rfl⟩ | ⟨hp1, rfl, rfl⟩), rfl⟩
        · refine x_if_ne C 81 (by decide) (by decide) dX11_comes_75 (fun _ => ?_) (fun z => absurd z (by decide))
          refine x_aload_n C 2 rfl rfl dX11_comes_81 ?_
          refine x_get C in_X11_comes_X11 0 rfl rfl 1 (by decide) (List.mem_of_getElem? (i := 1) rfl) rfl (v := .ref (b 27)) rfl dX11_comes_82 ?_
          refine x_get C in_X11_comes_X1 27 rfl rfl 2 (by decide) (List.mem_of_getElem? (i := 5) rfl) rfl (v := .int (iN ((Ct.n N) + 1))) rfl dX11_comes_85 ?_
          refine x_iconst (v := 0) C dX11_comes_88 ?_
          refine x_isub C dX11_comes_89 ?_
          exact hret _ _ _ _ dX11_comes_90 rfl (Or.inl ⟨(by omega), (by omega), ⟨(Ct.wa N), (Ct.wa P), _, _, rfl⟩⟩)
        · refine x_if_ne C 81 (by decide) (by decide) dX11_comes_75 (fun z => absurd z (by decide)) (fun _ => ?_)
          refine x_bipush C (-2) (by decide) dX11_comes_78 ?_
          exact hret _ _ _ _ dX11_comes_80 rfl (Or.inr (Or.inl ⟨(by omega), (by omega), rfl, ⟨(Ct.wa N), (Ct.wa P), _, _, rfl⟩⟩))
      · refine x_iload C 0 rfl dX11_comes_45 ?_
        exact hret _ _ _ _ dX11_comes_47 rfl (Or.inr (Or.inr ⟨(by omega), (by omega), ⟨(Ct.wa N), (Ct.wa P), _, _, rfl⟩⟩))
    refine x_if_eq C 37 (by decide) (by omega) dX11_comes_26 (fun c_26 => ?_) (fun c_26 => ?_)
    · refine x_iconst (v := 0) C dX11_comes_37 ?_
      exact LP38 _ (by omega)
    · refine x_aload_n C 1 rfl rfl dX11_comes_29 ?_
      refine x_iload_n C 2 rfl rfl dX11_comes_30 ?_
      refine x_V_I C (As := [.int (iN (d))]) (rest := []) 1 0 rfl rfl gX11_comes_X11_kindRefusal rfl (c_X11_kindRefusal _ _ b F N M P hp sd hN hF (d) (by omega)) rfl ok_X11_kindRefusal rfl rfl rfl rfl dX11_comes_31 (fun r w1 hp => ?_)
      obtain ⟨rfl, rfl⟩ := hp
      show Wx X 0 0 (WX X.γ b F N M P hp sd) 34 [(4, .int (iN (s0_22))), (0, .ref (b 0)), (1, .int (iN (d))), (2, .int (iN (ag))), (3, .int (iN (c)))] [.int (iN (if 0 ≤ d ∧ d ≤ 7 then (if Sh.hd (F d.toNat) = 0 then -11 else if Sh.hd (F d.toNat) = 1 then 0 else -12) else -1))]
      refine x_goto C 38 (by decide) dX11_comes_34 ?_
      exact LP38 _ (by omega)
  refine x_ifeq_bz C 21 (by decide) dX11_comes_7 (fun c_7 => ?_) (fun c_7 => ?_)
  · refine x_iconst (v := 0) C dX11_comes_21 ?_
    exact LP22 _ (by omega)
  · refine x_iload_n C 3 rfl rfl dX11_comes_10 ?_
    refine x_S_I C (As := [.int (iN (c))]) (rest := []) 1 gX11_comes_X11_isCell (c_X11_isCell _ _ (WX X.γ b F N M P hp sd) (c) (by omega)) rfl ok_X11_isCell rfl rfl rfl rfl dX11_comes_11 (fun r w1 hp => ?_)
    obtain ⟨rfl, rfl⟩ := hp
    refine x_ifeq_bz C 21 (by decide) dX11_comes_14 (fun c_14 => ?_) (fun c_14 => ?_)
    · refine x_iconst (v := 0) C dX11_comes_21 ?_
      exact LP22 _ (by omega)
    · refine x_iconst (v := 0) C dX11_comes_17 ?_
      refine x_goto C 22 (by decide) dX11_comes_18 ?_
      exact LP22 _ (by omega)
end HXCav
