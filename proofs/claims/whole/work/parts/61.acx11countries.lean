section HXGac
theorem in_X11_countries_X11 : ∀ w ∈ u_ws RX11 TX11 6, w ∈ wsX11_countries := by decide +kernel
theorem ok_X11_countries : okY yX11_countries 3 := by decide +kernel
def rmX11_countries : Room := { frames := 5, cells := 0, slots := 0, locals := 109 }
set_option maxRecDepth 100000 in
set_option maxHeartbeats 400000 in
theorem c_X11_countries (l : Launch) (γ : GX) (b : Nat → Nat) (F : Nat → Sh) (N M P : Ct) (hp sd : Int) (hN : WFc N) (hF : ∀ t : Nat, t < 8 → WFs (F t)) (n : Int) (z : Int) (w : Int) (h0_ : -2147483648 ≤ n ∧ n < 2147483648) (h1_ : -2147483648 ≤ z ∧ z < 2147483648) (h2_ : -2147483648 ≤ w ∧ w < 2147483648) : MI l γ yX11_countries wsX11_countries rmX11_countries [.ref (b 0), .int (iN (n)), .int (iN (z)), .int (iN (w))] (WX γ b F N M P hp sd) (fun r_ w_ => r_ = q_countries N n z w ∧ Wc γ b F N P hp w_) 0 0 := by
  refine MI.of (cc := cX11_countries) (maxL := 6) (rt := .int) RX11 rfl (by decide +kernel) rfl (Nat.le_of_ble_eq_true rfl) ?_
  intro X C hγ hl hnm hret
  subst hγ
  have hNn := WFc.n hN
  obtain ⟨ten, hten⟩ : ∃ t : Nat, t = 10 := ⟨10, rfl⟩
  show Wx X 0 0 (WX X.γ b F N M P hp sd) 0 [(0, .ref (b 0)), (1, .int (iN (n))), (2, .int (iN (z))), (3, .int (iN (w)))] []
  refine x_iload_n C 1 rfl rfl dX11_countries_0 ?_
  refine x_iconst (v := 0) C dX11_countries_1 ?_
  refine x_bipush C (20) (by decide) dX11_countries_2 ?_
  refine x_S_I C (As := [.int (iN (n)), .int (iN (1)), .int (iN (20))]) (rest := []) 3 gX11_countries_X11_isWithin (c_X11_isWithin _ _ (WX X.γ b F N M P hp sd) (n) (1) (20) (by omega) (by omega) (by omega)) rfl ok_X11_isWithin rfl rfl rfl rfl dX11_countries_4 (fun r w1 hp => ?_)
  obtain ⟨rfl, rfl⟩ := hp
  refine x_ifeq_bz C 19 (by decide) dX11_countries_7 (fun c_7 => ?_) (fun c_7 => ?_)
  · refine x_iconst (v := 0) C dX11_countries_19 ?_
    exact hret _ _ _ _ dX11_countries_20 rfl ⟨(by unfold q_countries; rw [if_neg (by omega)]), ⟨(Ct.wa N), (Ct.wa P), _, _, rfl⟩⟩
  · refine x_iload_n C 3 rfl rfl dX11_countries_10 ?_
    refine x_iconst (v := 0) C dX11_countries_11 ?_
    refine x_iconst (v := 0) C dX11_countries_12 ?_
    refine x_S_I C (As := [.int (iN (w)), .int (iN (0)), .int (iN (1))]) (rest := []) 3 gX11_countries_X11_isWithin (c_X11_isWithin _ _ (WX X.γ b F N M P hp sd) (w) (0) (1) (by omega) (by omega) (by omega)) rfl ok_X11_isWithin rfl rfl rfl rfl dX11_countries_13 (fun r w1 hp => ?_)
    obtain ⟨rfl, rfl⟩ := hp
    refine x_ifne_bz C 21 (by decide) dX11_countries_16 (fun c_16 => ?_) (fun c_16 => ?_)
    · refine x_aload_n C 0 rfl rfl dX11_countries_21 ?_
      refine x_iload_n C 2 rfl rfl dX11_countries_22 ?_
      refine x_put C in_X11_countries_X11 tyX11 tyX11_ok nmX11 0 rfl rfl 5 (by decide) (List.mem_of_getElem? (i := 1) rfl) rfl rfl rfl rfl rfl (Nat.le_of_ble_eq_true rfl) (WX X.γ b F N M P hp z) rfl dX11_countries_23 ?_
      refine x_iconst (v := 0) C dX11_countries_26 ?_
      refine x_istore C [(4, .int (iN (0))), (0, .ref (b 0)), (1, .int (iN (n))), (2, .int (iN (z))), (3, .int (iN (w)))] (by decide) rfl dX11_countries_27 ?_
      refine x_iconst (v := 0) C dX11_countries_29 ?_
      refine x_istore C [(5, .int (iN (0))), (4, .int (iN (0))), (0, .ref (b 0)), (1, .int (iN (n))), (2, .int (iN (z))), (3, .int (iN (w)))] (by decide) rfl dX11_countries_30 ?_
      have LP32 : ∀ (f : Nat) (k : Nat) (M1 : Ct) (v5_32 : Int) (v4_32 : Int), (n.toNat - k < f) → (k ≤ n.toNat) → (((k : Int)) = v5_32) → (v4_32 = (ctz N z w k)) → Wx X 0 0 (WX X.γ b F N M1 P hp (cts N z k)) 32 [(5, .int (iN (v5_32))), (4, .int (iN (v4_32))), (0, .ref (b 0)), (1, .int (iN (n))), (2, .int (iN (z))), (3, .int (iN (w)))] [] := by
        intro f
        induction f with
        | zero => intro k M1 v5_32 v4_32 hf; exact absurd hf (Nat.not_lt_zero _)
        | succ f ih32 =>
          intro k M1 v5_32 v4_32 hf hk e5_32 e4_32
          subst e5_32
          refine x_iload C 0 rfl dX11_countries_32 ?_
          refine x_iload_n C 3 rfl rfl dX11_countries_34 ?_
          refine x_icmp_ge C 83 (by decide) (by omega) dX11_countries_35 (fun c_35 => ?_) (fun c_35 => ?_)
          · refine x_iload C 1 rfl dX11_countries_83 ?_
            exact hret _ _ _ _ dX11_countries_85 rfl ⟨(by have hz9 : k = n.toNat := (by omega); subst hz9; unfold q_countries; rw [if_pos (by omega)]; exact e4_32), ⟨(Ct.wa N), (Ct.wa P), _, _, rfl⟩⟩
          · refine x_aload_n C 2 rfl rfl dX11_countries_38 ?_
            refine x_V_V C (As := []) (rest := []) 0 0 rfl rfl gX11_countries_X11_drawCountry rfl (c_X11_drawCountry _ _ b F N M1 P hp (cts N z k) hN hF) rfl ok_X11_drawCountry rfl rfl rfl rfl dX11_countries_39 (fun w1 hp => ?_)
            obtain rfl := hp
            refine x_aload_n C 2 rfl rfl dX11_countries_42 ?_
            refine x_get C in_X11_countries_X11 0 rfl rfl 2 (by decide) (List.mem_of_getElem? (i := 2) rfl) rfl (v := .ref (b 38)) rfl dX11_countries_43 ?_
            refine x_bipush C (10) (by decide) dX11_countries_46 ?_
            refine x_V_V C (As := [.int (iN ((10 : Int)))]) (rest := []) 1 38 rfl rfl gX11_countries_X1_passDays rfl (MV.fM b F N (Ct.set_wa (drC N (cts N z k)) (Ct.wa M1)) P hp (sdn (cts N z k) (Ct.n N).toNat) (fun Z => (Ct.days (Ct.set_wa (drC N (cts N z k)) (Ct.wa M1)) ((10 : Int)).toNat) = Z) (c_X1_passDays _ _ (adM b) (Ct.set_wa (drC N (cts N z k)) (Ct.wa M1)) (drC_w hN (cts N z k)) ((10 : Int)) (by omega)) (fun w h => ⟨_, rfl, h⟩)) rfl ok_X1_passDays rfl rfl rfl rfl dX11_countries_48 (fun w1 hp => ?_)
            obtain ⟨_, rfl, rfl⟩ := hp
            refine Wx.eqW (ws' := (WX X.γ b F N (Ct.set_wa (Ct.days (drC N (cts N z k)) ((10 : Int)).toNat) (Ct.wa M1)) P hp (sdn (cts N z k) (Ct.n N).toNat))) (by rw [← days_wa]; try rfl) ?_
            refine Wx.eqW (ws' := (WX X.γ b F N (Ct.set_wa (Ct.days (drC N (cts N z k)) ten) (Ct.wa M1)) P hp (sdn (cts N z k) (Ct.n N).toNat))) (by rw [show ((10 : Int)).toNat = ten from hten.symm]) ?_
            refine x_iload C 1 rfl dX11_countries_51 ?_
            refine x_iload_n C 5 rfl rfl dX11_countries_53 ?_
            refine x_if_ne C 67 (by decide) (by omega) dX11_countries_54 (fun c_54 => ?_) (fun c_54 => ?_)
            · refine x_aload_n C 2 rfl rfl dX11_countries_67 ?_
              refine x_get C in_X11_countries_X11 0 rfl rfl 2 (by decide) (List.mem_of_getElem? (i := 2) rfl) rfl (v := .ref (b 38)) rfl dX11_countries_68 ?_
              refine x_V_I C (As := []) (rest := [.int (iN (v4_32))]) 0 38 rfl rfl gX11_countries_X1_howManyOnEdge rfl (MI.fM b F N (Ct.set_wa (Ct.days (drC N (cts N z k)) ten) (Ct.wa M1)) P hp (sdn (cts N z k) (Ct.n N).toNat) (fun r Z => r = (sumz (edz (Ct.po (Ct.days (drC N (cts N z k)) ten))) (Ct.n (Ct.days (drC N (cts N z k)) ten)).toNat) ∧ (Ct.set_wa (Ct.days (drC N (cts N z k)) ten) (Ct.wa M1)) = Z) (c_X1_howManyOnEdge _ _ (adM b) (Ct.set_wa (Ct.days (drC N (cts N z k)) ten) (Ct.wa M1)) (Ct.days_wf (drC_w hN (cts N z k)) ten)) (fun r w h => ⟨_, ⟨h.1, rfl⟩, h.2⟩)) rfl ok_X1_howManyOnEdge rfl rfl rfl rfl dX11_countries_71 (fun r w1 hp => ?_)
              obtain ⟨_, ⟨rfl, rfl⟩, rfl⟩ := hp
              show Wx X 0 0 (WX X.γ b F N (Ct.set_wa (Ct.days (drC N (cts N z k)) ten) (Ct.wa M1)) P hp (sdn (cts N z k) (Ct.n N).toNat)) 74 [(5, .int (iN ((k : Int)))), (4, .int (iN (v4_32))), (0, .ref (b 0)), (1, .int (iN (n))), (2, .int (iN (z))), (3, .int (iN (w)))] [.int (iN (sumz (edz (Ct.po (Ct.days (drC N (cts N z k)) ten))) (Ct.n (Ct.days (drC N (cts N z k)) ten)).toNat)), .int (iN (v4_32))]
              show Wx X 0 0 (WX X.γ b F N (Ct.set_wa (Ct.days (drC N (cts N z k)) ten) (Ct.wa M1)) P hp (sdn (cts N z k) (Ct.n N).toNat)) 74 [(5, .int (iN ((k : Int)))), (4, .int (iN (v4_32))), (0, .ref (b 0)), (1, .int (iN (n))), (2, .int (iN (z))), (3, .int (iN (w)))] [.int (iN (sumz (edz (Ct.po (Ct.days (drC N (cts N z k)) ten))) (Ct.n (Ct.days (drC N (cts N z k)) ten)).toNat)), .int (iN (v4_32))]
              refine x_iadd C dX11_countries_74 ?_
              refine x_istore C [(4, .int (iN (v4_32 + (sumz (edz (Ct.po (Ct.days (drC N (cts N z k)) ten))) (Ct.n (Ct.days (drC N (cts N z k)) ten)).toNat)))), (5, .int (iN ((k : Int)))), (0, .ref (b 0)), (1, .int (iN (n))), (2, .int (iN (z))), (3, .int (iN (w)))] (by decide) rfl dX11_countries_75 ?_
              refine x_iinc C 1 [(5, .int (iN ((k : Int) + 1))), (4, .int (iN (v4_32 + (sumz (edz (Ct.po (Ct.days (drC N (cts N z k)) ten))) (Ct.n (Ct.days (drC N (cts N z k)) ten)).toNat)))), (0, .ref (b 0)), (1, .int (iN (n))), (2, .int (iN (z))), (3, .int (iN (w)))] rfl rfl (by decide) rfl dX11_countries_77 ?_
              refine x_goto C 32 (by decide) dX11_countries_80 ?_
              exact ih32 (k + 1) ((Ct.set_wa (Ct.days (drC N (cts N z k)) ten) (Ct.wa M1))) _ _ (by omega) (by omega) (by omega) (by show _ = ctz N z w k + ctv N (cts N z k) w; rw [show ctv N (cts N z k) w = sumz (edz (Ct.po (Ct.days (drC N (cts N z k)) ten))) (Ct.n N).toNat from (by rw [hten]; exact if_neg (by omega)), ← e4_32]; rw [show (Ct.n (Ct.days (drC N (cts N z k)) ten)) = Ct.n N from (Ct.days_eq _ _).2.1])
            · refine x_aload_n C 2 rfl rfl dX11_countries_57 ?_
              refine x_get C in_X11_countries_X11 0 rfl rfl 2 (by decide) (List.mem_of_getElem? (i := 2) rfl) rfl (v := .ref (b 38)) rfl dX11_countries_58 ?_
              refine x_V_I C (As := []) (rest := [.int (iN (v4_32))]) 0 38 rfl rfl gX11_countries_X1_allWater rfl (MI.fM b F N (Ct.set_wa (Ct.days (drC N (cts N z k)) ten) (Ct.wa M1)) P hp (sdn (cts N z k) (Ct.n N).toNat) (fun r Z => r = (Ct.allW (Ct.days (drC N (cts N z k)) ten)) ∧ (Ct.set_wa (Ct.days (drC N (cts N z k)) ten) (Ct.w (Ct.set_wa (Ct.days (drC N (cts N z k)) ten) (Ct.wa M1)))) = Z) (c_X1_allWater _ _ (adM b) (Ct.set_wa (Ct.days (drC N (cts N z k)) ten) (Ct.wa M1)) (Ct.days_wf (drC_w hN (cts N z k)) ten)) (fun r w h => ⟨_, ⟨h.1, rfl⟩, h.2⟩)) rfl ok_X1_allWater rfl rfl rfl rfl dX11_countries_61 (fun r w1 hp => ?_)
              obtain ⟨_, ⟨rfl, rfl⟩, rfl⟩ := hp
              show Wx X 0 0 (WX X.γ b F N (Ct.set_wa (Ct.days (drC N (cts N z k)) ten) (Ct.w (Ct.set_wa (Ct.days (drC N (cts N z k)) ten) (Ct.wa M1)))) P hp (sdn (cts N z k) (Ct.n N).toNat)) 64 [(5, .int (iN ((k : Int)))), (4, .int (iN (v4_32))), (0, .ref (b 0)), (1, .int (iN (n))), (2, .int (iN (z))), (3, .int (iN (w)))] [.int (iN (Ct.allW (Ct.days (drC N (cts N z k)) ten))), .int (iN (v4_32))]
              show Wx X 0 0 (WX X.γ b F N (Ct.set_wa (Ct.days (drC N (cts N z k)) ten) (Ct.w (Ct.set_wa (Ct.days (drC N (cts N z k)) ten) (Ct.wa M1)))) P hp (sdn (cts N z k) (Ct.n N).toNat)) 64 [(5, .int (iN ((k : Int)))), (4, .int (iN (v4_32))), (0, .ref (b 0)), (1, .int (iN (n))), (2, .int (iN (z))), (3, .int (iN (w)))] [.int (iN (Ct.allW (Ct.days (drC N (cts N z k)) ten))), .int (iN (v4_32))]
              have b145 := WFc.allW (Ct.days_wf (drC_w hN (cts N z k)) ten)
              refine x_goto C 74 (by decide) dX11_countries_64 ?_
              refine x_iadd C dX11_countries_74 ?_
              refine x_istore C [(4, .int (iN (v4_32 + (Ct.allW (Ct.days (drC N (cts N z k)) ten))))), (5, .int (iN ((k : Int)))), (0, .ref (b 0)), (1, .int (iN (n))), (2, .int (iN (z))), (3, .int (iN (w)))] (by decide) rfl dX11_countries_75 ?_
              refine x_iinc C 1 [(5, .int (iN ((k : Int) + 1))), (4, .int (iN (v4_32 + (Ct.allW (Ct.days (drC N (cts N z k)) ten))))), (0, .ref (b 0)), (1, .int (iN (n))), (2, .int (iN (z))), (3, .int (iN (w)))] rfl rfl (by decide) rfl dX11_countries_77 ?_
              refine x_goto C 32 (by decide) dX11_countries_80 ?_
              exact ih32 (k + 1) ((Ct.set_wa (Ct.days (drC N (cts N z k)) ten) (Ct.w (Ct.set_wa (Ct.days (drC N (cts N z k)) ten) (Ct.wa M1))))) _ _ (by omega) (by omega) (by omega) (by show _ = ctz N z w k + ctv N (cts N z k) w; rw [show ctv N (cts N z k) w = Ct.allW (Ct.days (drC N (cts N z k)) ten) from (by rw [hten]; exact if_pos (by omega)), ← e4_32])
      exact LP32 ((n.toNat - (0)) + 1) (0) (M) _ _ (by omega) (by omega) (by omega) (rfl)
    · refine x_iconst (v := 0) C dX11_countries_19 ?_
      exact hret _ _ _ _ dX11_countries_20 rfl ⟨(by unfold q_countries; rw [if_neg (by omega)]), ⟨(Ct.wa N), (Ct.wa P), _, _, rfl⟩⟩
end HXGac
