section HXCan
theorem in_X11_stuck_X1 : ∀ w ∈ u_ws RX1 TX1 13, w ∈ wsX11_stuck := by decide +kernel
theorem in_X11_stuck_X11 : ∀ w ∈ u_ws RX11 TX11 6, w ∈ wsX11_stuck := by decide +kernel
theorem ok_X11_stuck : okY yX11_stuck 1 := by decide +kernel
def rmX11_stuck : Room := { frames := 4, cells := 0, slots := 0, locals := 87 }
set_option maxRecDepth 100000 in
set_option maxHeartbeats 400000 in
theorem c_X11_stuck (l : Launch) (γ : GX) (b : Nat → Nat) (F : Nat → Sh) (N M P : Ct) (hp sd : Int) (hN : WFc N) (hF : ∀ t : Nat, t < 8 → WFs (F t)) (i : Int) (h0_ : -2147483648 ≤ i ∧ i < 2147483648) : MI l γ yX11_stuck wsX11_stuck rmX11_stuck [.ref (b 0), .int (iN (i))] (WX γ b F N M P hp sd) (fun r_ w_ => r_ = q_stuck N i ∧ Wc γ b F N P hp w_) 0 0 := by
  refine MI.of (cc := cX11_stuck) (maxL := 4) (rt := .int) RX11 rfl (by decide +kernel) rfl (Nat.le_of_ble_eq_true rfl) ?_
  intro X C hγ hl hnm hret
  subst hγ
  have hNn := WFc.n hN
  show Wx X 0 0 (WX X.γ b F N M P hp sd) 0 [(0, .ref (b 0)), (1, .int (iN (i)))] []
  refine x_aload_n C 0 rfl rfl dX11_stuck_0 ?_
  refine x_get C in_X11_stuck_X11 0 rfl rfl 1 (by decide) (List.mem_of_getElem? (i := 1) rfl) rfl (v := .ref (b 27)) rfl dX11_stuck_1 ?_
  refine x_iload_n C 1 rfl rfl dX11_stuck_4 ?_
  refine x_V_I C (As := [.int (iN (i))]) (rest := []) 1 27 rfl rfl gX11_stuck_X1_has rfl (MI.fN b F N M P hp sd (fun r Z => r = (bz (0 ≤ i ∧ i ≤ Ct.n N - 1)) ∧ N = Z) (c_X1_has _ _ (adN b) N hN (i) (by omega)) (fun r w h => ⟨_, ⟨h.1, rfl⟩, h.2⟩)) rfl ok_X1_has rfl rfl rfl rfl dX11_stuck_5 (fun r w1 hp => ?_)
  obtain ⟨_, ⟨rfl, rfl⟩, rfl⟩ := hp
  show Wx X 0 0 (WX X.γ b F N M P hp sd) 8 [(0, .ref (b 0)), (1, .int (iN (i)))] [.int (iN (bz (0 ≤ i ∧ i ≤ Ct.n N - 1)))]
  refine x_ifne_bz C 13 (by decide) dX11_stuck_8 (fun c_8 => ?_) (fun c_8 => ?_)
  · refine x_aload_n C 0 rfl rfl dX11_stuck_13 ?_
    refine x_get C in_X11_stuck_X11 0 rfl rfl 2 (by decide) (List.mem_of_getElem? (i := 2) rfl) rfl (v := .ref (b 38)) rfl dX11_stuck_14 ?_
    refine x_aload_n C 0 rfl rfl dX11_stuck_17 ?_
    refine x_get C in_X11_stuck_X11 0 rfl rfl 1 (by decide) (List.mem_of_getElem? (i := 1) rfl) rfl (v := .ref (b 27)) rfl dX11_stuck_18 ?_
    refine x_V_V C (As := [.ref (b 27)]) (rest := []) 1 38 rfl rfl gX11_stuck_X1_become rfl (MV.bMN b F N M P hp sd (fun Z => Z = Ct.set_wa N (Ct.wa M)) (c_X1_become _ _ (adM b) (adN b) M N) (fun w h => ⟨_, rfl, h⟩)) rfl ok_X1_become rfl rfl rfl rfl dX11_stuck_21 (fun w1 hp => ?_)
    obtain ⟨_, rfl, rfl⟩ := hp
    refine Wx.eqW (ws' := (WX X.γ b F N (Ct.set_wa N (Ct.wa M)) P hp sd)) rfl ?_
    refine x_iconst (v := 0) C dX11_stuck_24 ?_
    refine x_istore_n C [(2, .int (iN (0))), (0, .ref (b 0)), (1, .int (iN (i)))] rfl (by decide) rfl dX11_stuck_25 ?_
    have LP26 : ∀ (f : Nat) (k : Nat) (WA : Int → Int) (v2_26 : Int), (61 - k < f) → (k ≤ 61) → (fstz (fun t => Ct.po (Ct.days N (t + 1)) i - Ct.po (Ct.days N t) i) k = -4) → (((k : Int)) = v2_26) → Wx X 0 0 (WX X.γ b F N (Ct.set_wa (Ct.days N k) (WA)) P hp sd) 26 [(2, .int (iN (v2_26))), (0, .ref (b 0)), (1, .int (iN (i)))] [] := by
      intro f
      induction f with
      | zero => intro k WA v2_26 hf; exact absurd hf (Nat.not_lt_zero _)
      | succ f ih26 =>
        intro k WA v2_26 hf hk hf0 e2_26
        subst e2_26
        refine x_iload_n C 0 rfl rfl dX11_stuck_26 ?_
        refine x_bipush C (60) (by decide) dX11_stuck_27 ?_
        refine x_icmp_gt C 71 (by decide) (by omega) dX11_stuck_29 (fun c_29 => ?_) (fun c_29 => ?_)
        · refine x_bipush C (-4) (by decide) dX11_stuck_71 ?_
          exact hret _ _ _ _ dX11_stuck_73 rfl ⟨(by unfold q_stuck; rw [if_pos (show q_one N i from (show 0 ≤ i ∧ i ≤ Ct.n N - 1 by omega))]; rw [show 61 = k by omega, hf0]), ⟨(Ct.wa N), (Ct.wa P), _, _, rfl⟩⟩
        · refine x_aload_n C 1 rfl rfl dX11_stuck_32 ?_
          refine x_get C in_X11_stuck_X11 0 rfl rfl 2 (by decide) (List.mem_of_getElem? (i := 2) rfl) rfl (v := .ref (b 38)) rfl dX11_stuck_33 ?_
          refine x_get C in_X11_stuck_X1 38 rfl rfl 7 (by decide) (List.mem_of_getElem? (i := 3) rfl) rfl (v := .ref (b 43)) rfl dX11_stuck_36 ?_
          refine x_iload_n C 2 rfl rfl dX11_stuck_39 ?_
          refine x_iaload C (f := Ct.po (Ct.days N k)) 43 rfl (by omega) rfl dX11_stuck_40 ?_
          have b105 := WFc.po (Ct.days_wf hN k) (i)
          refine x_istore_n C [(3, .int (iN (Ct.po (Ct.days N k) i))), (2, .int (iN ((k : Int)))), (0, .ref (b 0)), (1, .int (iN (i)))] rfl (by decide) rfl dX11_stuck_41 ?_
          refine x_aload_n C 2 rfl rfl dX11_stuck_42 ?_
          refine x_get C in_X11_stuck_X11 0 rfl rfl 2 (by decide) (List.mem_of_getElem? (i := 2) rfl) rfl (v := .ref (b 38)) rfl dX11_stuck_43 ?_
          refine x_V_I C (As := []) (rest := []) 0 38 rfl rfl gX11_stuck_X1_passDay rfl (MI.fM b F N (Ct.set_wa (Ct.days N k) (WA)) P hp sd (fun r Z => r = ((Ct.D (Ct.set_wa (Ct.days N k) (WA)) (Ct.n (Ct.set_wa (Ct.days N k) (WA))).toNat).2.2) ∧ (Ct.day (Ct.set_wa (Ct.days N k) (WA))) = Z) (c_X1_passDay _ _ (adM b) (Ct.set_wa (Ct.days N k) (WA)) (Ct.days_wf hN k)) (fun r w h => ⟨_, ⟨h.1, rfl⟩, h.2⟩)) rfl ok_X1_passDay rfl rfl rfl rfl dX11_stuck_46 (fun r w1 hp => ?_)
          obtain ⟨_, ⟨rfl, rfl⟩, rfl⟩ := hp
          show Wx X 0 0 (WX X.γ b F N (Ct.set_wa (Ct.day (Ct.days N k)) (WA)) P hp sd) 49 [(3, .int (iN (Ct.po (Ct.days N k) i))), (2, .int (iN ((k : Int)))), (0, .ref (b 0)), (1, .int (iN (i)))] [.int (iN ((Ct.D (Ct.days N k) (Ct.n (Ct.days N k)).toNat).2.2))]
          show Wx X 0 0 (WX X.γ b F N (Ct.set_wa (Ct.day (Ct.days N k)) (WA)) P hp sd) 49 [(3, .int (iN (Ct.po (Ct.days N k) i))), (2, .int (iN ((k : Int)))), (0, .ref (b 0)), (1, .int (iN (i)))] [.int (iN ((Ct.D (Ct.days N k) (Ct.n (Ct.days N k)).toNat).2.2))]
          refine Wx.eqW (ws' := (WX X.γ b F N (Ct.set_wa (Ct.days N (k + 1)) (WA)) P hp sd)) (rfl) ?_
          refine x_pop C rfl dX11_stuck_49 ?_
          refine x_aload_n C 2 rfl rfl dX11_stuck_50 ?_
          refine x_get C in_X11_stuck_X11 0 rfl rfl 2 (by decide) (List.mem_of_getElem? (i := 2) rfl) rfl (v := .ref (b 38)) rfl dX11_stuck_51 ?_
          refine x_get C in_X11_stuck_X1 38 rfl rfl 7 (by decide) (List.mem_of_getElem? (i := 3) rfl) rfl (v := .ref (b 43)) rfl dX11_stuck_54 ?_
          refine x_iload_n C 3 rfl rfl dX11_stuck_57 ?_
          refine x_iaload C (f := Ct.po (Ct.days N (k + 1))) 43 rfl (by omega) rfl dX11_stuck_58 ?_
          have b106 := WFc.po (Ct.days_wf hN (k + 1)) (i)
          refine x_iload_n C 0 rfl rfl dX11_stuck_59 ?_
          refine x_icmp_ne C 65 (by decide) (by omega) dX11_stuck_60 (fun c_60 => ?_) (fun c_60 => ?_)
          · refine x_iinc C 1 [(2, .int (iN ((k : Int) + 1))), (3, .int (iN (Ct.po (Ct.days N k) i))), (0, .ref (b 0)), (1, .int (iN (i)))] rfl rfl (by decide) rfl dX11_stuck_65 ?_
            refine x_goto C 26 (by decide) dX11_stuck_68 ?_
            refine Wx.subL [0, 2, 3] rfl ?_
            exact ih26 (k + 1) (WA) _ (by omega) (by omega) (fstz_q hf0 (show Ct.po (Ct.days N (k + 1)) i - Ct.po (Ct.days N k) i ≠ 0 by omega)) (by omega)
          · refine x_iload_n C 1 rfl rfl dX11_stuck_63 ?_
            exact hret _ _ _ _ dX11_stuck_64 rfl ⟨(by unfold q_stuck; rw [if_pos (show q_one N i from (show 0 ≤ i ∧ i ≤ Ct.n N - 1 by omega))]; have e1 := fstz_f hf0 (show (fun t => Ct.po (Ct.days N (t + 1)) i - Ct.po (Ct.days N t) i) k = 0 from (show Ct.po (Ct.days N (k + 1)) i - Ct.po (Ct.days N k) i = 0 by omega)); rw [fstz_end (fun t => Ct.po (Ct.days N (t + 1)) i - Ct.po (Ct.days N t) i) (k := k + 1) (by omega) (Or.inr (by rw [e1]; omega)), e1]), ⟨(Ct.wa N), (Ct.wa P), _, _, rfl⟩⟩
    exact LP26 ((61 - (0)) + 1) (0) (Ct.wa M) _ (by omega) (by omega) (rfl) (by omega)
  · refine x_iconst (v := 0) C dX11_stuck_11 ?_
    exact hret _ _ _ _ dX11_stuck_12 rfl ⟨(by unfold q_stuck; rw [if_neg (show ¬ q_one N i from (show ¬ (0 ≤ i ∧ i ≤ Ct.n N - 1) by omega))]), ⟨(Ct.wa N), (Ct.wa P), _, _, rfl⟩⟩
end HXCan
