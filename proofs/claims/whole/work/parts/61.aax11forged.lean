section HXGaa
theorem in_X11_forged_X11 : ∀ w ∈ u_ws RX11 TX11 6, w ∈ wsX11_forged := by decide +kernel
theorem in_X11_forged_X5 : ∀ w ∈ u_ws RX5 TX5 6, w ∈ wsX11_forged := by decide +kernel
theorem ok_X11_forged : okY yX11_forged 1 := by decide +kernel
def rmX11_forged : Room := { frames := 3, cells := 0, slots := 0, locals := 63 }
set_option maxRecDepth 100000 in
set_option maxHeartbeats 400000 in
theorem c_X11_forged (l : Launch) (γ : GX) (b : Nat → Nat) (F : Nat → Sh) (N M P : Ct) (hp sd : Int) (hN : WFc N) (hF : ∀ t : Nat, t < 8 → WFs (F t)) (d : Int) (h0_ : -2147483648 ≤ d ∧ d < 2147483648) : MI l γ yX11_forged wsX11_forged rmX11_forged [.ref (b 0), .int (iN (d))] (WX γ b F N M P hp sd) (fun r_ w_ => r_ = q_wr d (Sh.hd (F d.toNat)) 2 (fstz (q_fg N (Sh.va (F d.toNat))) (Sh.sz (F d.toNat)).toNat) ∧ Wc γ b F N P hp w_) 0 0 := by
  refine MI.of (cc := cX11_forged) (maxL := 5) (rt := .int) RX11 rfl (by decide +kernel) rfl (Nat.le_of_ble_eq_true rfl) ?_
  intro X C hγ hl hnm hret
  subst hγ
  have hNn := WFc.n hN
  show Wx X 0 0 (WX X.γ b F N M P hp sd) 0 [(0, .ref (b 0)), (1, .int (iN (d)))] []
  refine x_aload_n C 0 rfl rfl dX11_forged_0 ?_
  refine x_iload_n C 1 rfl rfl dX11_forged_1 ?_
  refine x_V_I C (As := [.int (iN (d))]) (rest := []) 1 0 rfl rfl gX11_forged_X11_rowRefusal rfl (c_X11_rowRefusal _ _ b F N M P hp sd hN hF (d) (by omega)) rfl ok_X11_rowRefusal rfl rfl rfl rfl dX11_forged_2 (fun r w1 hp => ?_)
  obtain ⟨rfl, rfl⟩ := hp
  show Wx X 0 0 (WX X.γ b F N M P hp sd) 5 [(0, .ref (b 0)), (1, .int (iN (d)))] [.int (iN (if 0 ≤ d ∧ d ≤ 7 then (if Sh.hd (F d.toNat) = 0 then -11 else if Sh.hd (F d.toNat) = 2 then 0 else -12) else -1))]
  refine x_istore_n C [(2, .int (iN (if 0 ≤ d ∧ d ≤ 7 then (if Sh.hd (F d.toNat) = 0 then -11 else if Sh.hd (F d.toNat) = 2 then 0 else -12) else -1))), (0, .ref (b 0)), (1, .int (iN (d)))] rfl (by decide) rfl dX11_forged_5 ?_
  refine x_iload_n C 0 rfl rfl dX11_forged_6 ?_
  refine x_if_ge C 12 (by decide) (by omega) dX11_forged_7 (fun c_7 => ?_) (fun c_7 => ?_)
  · have hFd := hF d.toNat (by omega)
    have hSz := WFs.sz hFd
    refine x_aload_n C 1 rfl rfl dX11_forged_12 ?_
    refine x_get C in_X11_forged_X11 0 rfl rfl 0 (by decide) (List.mem_of_getElem? (i := 1) rfl) rfl (v := .ref (b 1)) rfl dX11_forged_13 ?_
    refine x_iload_n C 2 rfl rfl dX11_forged_16 ?_
    refine x_aaload C (f := fun k => some (b (2 + 2 * k.toNat))) (b := b (2 + 2 * d.toNat)) 1 rfl (by omega) rfl rfl dX11_forged_17 ?_
    refine x_astore_n C [(3, .ref (b (2 + 2 * d.toNat))), (2, .int (iN (if 0 ≤ d ∧ d ≤ 7 then (if Sh.hd (F d.toNat) = 0 then -11 else if Sh.hd (F d.toNat) = 2 then 0 else -12) else -1))), (0, .ref (b 0)), (1, .int (iN (d)))] rfl (by decide) rfl dX11_forged_18 ?_
    refine x_iconst (v := 0) C dX11_forged_19 ?_
    refine x_istore C [(4, .int (iN (0))), (3, .ref (b (2 + 2 * d.toNat))), (2, .int (iN (if 0 ≤ d ∧ d ≤ 7 then (if Sh.hd (F d.toNat) = 0 then -11 else if Sh.hd (F d.toNat) = 2 then 0 else -12) else -1))), (0, .ref (b 0)), (1, .int (iN (d)))] (by decide) rfl dX11_forged_20 ?_
    have LP22 : ∀ (f : Nat) (k : Nat) (v4_22 : Int), ((Sh.sz (F d.toNat)).toNat - k < f) → (k ≤ (Sh.sz (F d.toNat)).toNat) → (fstz (q_fg N (Sh.va (F d.toNat))) k = -4) → (((k : Int)) = v4_22) → Wx X 0 0 (WX X.γ b F N M P hp sd) 22 [(4, .int (iN (v4_22))), (3, .ref (b (2 + 2 * d.toNat))), (2, .int (iN (if 0 ≤ d ∧ d ≤ 7 then (if Sh.hd (F d.toNat) = 0 then -11 else if Sh.hd (F d.toNat) = 2 then 0 else -12) else -1))), (0, .ref (b 0)), (1, .int (iN (d)))] [] := by
      intro f
      induction f with
      | zero => intro k v4_22 hf; exact absurd hf (Nat.not_lt_zero _)
      | succ f ih22 =>
        intro k v4_22 hf hk hf0 e4_22
        subst e4_22
        refine x_iload C 0 rfl dX11_forged_22 ?_
        refine x_aload_n C 1 rfl rfl dX11_forged_24 ?_
        refine x_get C in_X11_forged_X5 (2 + 2 * d.toNat) (WX_so _ _ _ _ _ _ _ (show d.toNat < 8 by omega)) rfl 4 (by decide) (List.mem_of_getElem? (i := 2) rfl) rfl (v := .int (iN (Sh.sz (F d.toNat)))) rfl dX11_forged_25 ?_
        refine x_icmp_ge C 67 (by decide) (by omega) dX11_forged_28 (fun c_28 => ?_) (fun c_28 => ?_)
        · refine x_bipush C (-4) (by decide) dX11_forged_67 ?_
          exact hret _ _ _ _ dX11_forged_69 rfl ⟨(by unfold q_wr; rw [if_pos (show 0 ≤ d ∧ d ≤ 7 by omega), if_neg (show ¬ Sh.hd (F d.toNat) = 0 by omega), if_pos (show Sh.hd (F d.toNat) = 2 by omega)]; rw [show (Sh.sz (F d.toNat)).toNat = k by omega, hf0]), ⟨(Ct.wa N), (Ct.wa P), _, _, rfl⟩⟩
        · refine x_iload C 0 rfl dX11_forged_31 ?_
          refine x_S_I C (As := [.int (iN ((k : Int)))]) (rest := []) 1 gX11_forged_X11_isCell (c_X11_isCell _ _ (WX X.γ b F N M P hp sd) ((k : Int)) (by omega)) rfl ok_X11_isCell rfl rfl rfl rfl dX11_forged_33 (fun r w1 hp => ?_)
          obtain ⟨rfl, rfl⟩ := hp
          refine x_ifeq_bz C 58 (by decide) dX11_forged_36 (fun c_36 => ?_) (fun c_36 => ?_)
          · refine x_iload C 0 rfl dX11_forged_58 ?_
            exact hret _ _ _ _ dX11_forged_60 rfl ⟨(by have e1 := fstz_f hf0 (show q_fg N (Sh.va (F d.toNat)) k = 0 from if_neg (fun z => absurd z.1 (by omega))); unfold q_wr; rw [if_pos (show 0 ≤ d ∧ d ≤ 7 by omega), if_neg (show ¬ Sh.hd (F d.toNat) = 0 by omega), if_pos (show Sh.hd (F d.toNat) = 2 by omega)]; rw [fstz_end (q_fg N (Sh.va (F d.toNat))) (k := k + 1) (by omega) (Or.inr (by rw [e1]; omega)), e1]), ⟨(Ct.wa N), (Ct.wa P), _, _, rfl⟩⟩
          · refine x_aload_n C 1 rfl rfl dX11_forged_39 ?_
            refine x_get C in_X11_forged_X5 (2 + 2 * d.toNat) (WX_so _ _ _ _ _ _ _ (show d.toNat < 8 by omega)) rfl 5 (by decide) (List.mem_of_getElem? (i := 3) rfl) rfl (v := .ref (b (3 + 2 * d.toNat))) rfl dX11_forged_40 ?_
            refine x_iload C 0 rfl dX11_forged_43 ?_
            refine x_iaload C (f := (Sh.va (F d.toNat))) (3 + 2 * d.toNat) (WX_sv _ _ _ _ _ _ _ (show d.toNat < 8 by omega)) (by omega) rfl dX11_forged_45 ?_
            have b141 := WFs.va (hF d.toNat (by omega)) ((k : Int))
            refine x_aload_n C 3 rfl rfl dX11_forged_46 ?_
            refine x_get C in_X11_forged_X11 0 rfl rfl 1 (by decide) (List.mem_of_getElem? (i := 4) rfl) rfl (v := .ref (b 27)) rfl dX11_forged_47 ?_
            refine x_iload C 0 rfl dX11_forged_50 ?_
            refine x_V_I C (As := [.int (iN ((k : Int)))]) (rest := [.int (iN ((Sh.va (F d.toNat)) (k : Int)))]) 1 27 rfl rfl gX11_forged_X1_level rfl (MI.fN b F N M P hp sd (fun r Z => r = (Ct.g N ((k : Int))) ∧ N = Z) (c_X1_level _ _ (adN b) N hN ((k : Int)) (by omega)) (fun r w h => ⟨_, ⟨h.1, rfl⟩, h.2⟩)) rfl ok_X1_level rfl rfl rfl rfl dX11_forged_52 (fun r w1 hp => ?_)
            obtain ⟨_, ⟨rfl, rfl⟩, rfl⟩ := hp
            show Wx X 0 0 (WX X.γ b F N M P hp sd) 55 [(4, .int (iN ((k : Int)))), (3, .ref (b (2 + 2 * d.toNat))), (2, .int (iN (if 0 ≤ d ∧ d ≤ 7 then (if Sh.hd (F d.toNat) = 0 then -11 else if Sh.hd (F d.toNat) = 2 then 0 else -12) else -1))), (0, .ref (b 0)), (1, .int (iN (d)))] [.int (iN (Ct.g N ((k : Int)))), .int (iN ((Sh.va (F d.toNat)) (k : Int)))]
            show Wx X 0 0 (WX X.γ b F N M P hp sd) 55 [(4, .int (iN ((k : Int)))), (3, .ref (b (2 + 2 * d.toNat))), (2, .int (iN (if 0 ≤ d ∧ d ≤ 7 then (if Sh.hd (F d.toNat) = 0 then -11 else if Sh.hd (F d.toNat) = 2 then 0 else -12) else -1))), (0, .ref (b 0)), (1, .int (iN (d)))] [.int (iN (Ct.g N ((k : Int)))), .int (iN ((Sh.va (F d.toNat)) (k : Int)))]
            have b142 := WFc.g hN ((k : Int))
            refine x_icmp_eq C 61 (by decide) (by omega) dX11_forged_55 (fun c_55 => ?_) (fun c_55 => ?_)
            · refine x_iinc C 0 [(4, .int (iN ((k : Int) + 1))), (3, .ref (b (2 + 2 * d.toNat))), (2, .int (iN (if 0 ≤ d ∧ d ≤ 7 then (if Sh.hd (F d.toNat) = 0 then -11 else if Sh.hd (F d.toNat) = 2 then 0 else -12) else -1))), (0, .ref (b 0)), (1, .int (iN (d)))] rfl rfl (by decide) rfl dX11_forged_61 ?_
              refine x_goto C 22 (by decide) dX11_forged_64 ?_
              exact ih22 (k + 1) _ (by omega) (by omega) (fstz_p hf0 (show q_fg N (Sh.va (F d.toNat)) k = 1 from if_pos ⟨by omega, c_55⟩)) (by omega)
            · refine x_iload C 0 rfl dX11_forged_58 ?_
              exact hret _ _ _ _ dX11_forged_60 rfl ⟨(by have e1 := fstz_f hf0 (show q_fg N (Sh.va (F d.toNat)) k = 0 from if_neg (fun z => c_55 z.2)); unfold q_wr; rw [if_pos (show 0 ≤ d ∧ d ≤ 7 by omega), if_neg (show ¬ Sh.hd (F d.toNat) = 0 by omega), if_pos (show Sh.hd (F d.toNat) = 2 by omega)]; rw [fstz_end (q_fg N (Sh.va (F d.toNat))) (k := k + 1) (by omega) (Or.inr (by rw [e1]; omega)), e1]), ⟨(Ct.wa N), (Ct.wa P), _, _, rfl⟩⟩
    exact LP22 (((Sh.sz (F d.toNat)).toNat - (0)) + 1) (0) _ (by omega) (by omega) (rfl) (by omega)
  · refine x_iload_n C 0 rfl rfl dX11_forged_10 ?_
    exact hret _ _ _ _ dX11_forged_11 rfl ⟨(by unfold q_wr; omega), ⟨(Ct.wa N), (Ct.wa P), _, _, rfl⟩⟩
end HXGaa
