section HXCam
theorem in_X11_arrives_X1 : ∀ w ∈ u_ws RX1 TX1 13, w ∈ wsX11_arrives := by decide +kernel
theorem in_X11_arrives_X11 : ∀ w ∈ u_ws RX11 TX11 6, w ∈ wsX11_arrives := by decide +kernel
theorem ok_X11_arrives : okY yX11_arrives 2 := by decide +kernel
def rmX11_arrives : Room := { frames := 4, cells := 0, slots := 0, locals := 87 }
set_option maxRecDepth 100000 in
set_option maxHeartbeats 400000 in
theorem c_X11_arrives (l : Launch) (γ : GX) (b : Nat → Nat) (F : Nat → Sh) (N M P : Ct) (hp sd : Int) (hN : WFc N) (hF : ∀ t : Nat, t < 8 → WFs (F t)) (i : Int) (c : Int) (h0_ : -2147483648 ≤ i ∧ i < 2147483648) (h1_ : -2147483648 ≤ c ∧ c < 2147483648) : MI l γ yX11_arrives wsX11_arrives rmX11_arrives [.ref (b 0), .int (iN (i)), .int (iN (c))] (WX γ b F N M P hp sd) (fun r_ w_ => r_ = q_arrives N i c ∧ Wc γ b F N P hp w_) 0 0 := by
  refine MI.of (cc := cX11_arrives) (maxL := 4) (rt := .int) RX11 rfl (by decide +kernel) rfl (Nat.le_of_ble_eq_true rfl) ?_
  intro X C hγ hl hnm hret
  subst hγ
  have hNn := WFc.n hN
  show Wx X 0 0 (WX X.γ b F N M P hp sd) 0 [(0, .ref (b 0)), (1, .int (iN (i))), (2, .int (iN (c)))] []
  refine x_aload_n C 0 rfl rfl dX11_arrives_0 ?_
  refine x_get C in_X11_arrives_X11 0 rfl rfl 1 (by decide) (List.mem_of_getElem? (i := 1) rfl) rfl (v := .ref (b 27)) rfl dX11_arrives_1 ?_
  refine x_iload_n C 1 rfl rfl dX11_arrives_4 ?_
  refine x_V_I C (As := [.int (iN (i))]) (rest := []) 1 27 rfl rfl gX11_arrives_X1_has rfl (MI.fN b F N M P hp sd (fun r Z => r = (bz (0 ≤ i ∧ i ≤ Ct.n N - 1)) ∧ N = Z) (c_X1_has _ _ (adN b) N hN (i) (by omega)) (fun r w h => ⟨_, ⟨h.1, rfl⟩, h.2⟩)) rfl ok_X1_has rfl rfl rfl rfl dX11_arrives_5 (fun r w1 hp => ?_)
  obtain ⟨_, ⟨rfl, rfl⟩, rfl⟩ := hp
  show Wx X 0 0 (WX X.γ b F N M P hp sd) 8 [(0, .ref (b 0)), (1, .int (iN (i))), (2, .int (iN (c)))] [.int (iN (bz (0 ≤ i ∧ i ≤ Ct.n N - 1)))]
  refine x_ifeq_bz C 18 (by decide) dX11_arrives_8 (fun c_8 => ?_) (fun c_8 => ?_)
  · refine x_iconst (v := 0) C dX11_arrives_18 ?_
    exact hret _ _ _ _ dX11_arrives_19 rfl ⟨(by unfold q_arrives; rw [if_neg (show ¬ (q_one N i ∧ q_cell c) from (show ¬ ((0 ≤ i ∧ i ≤ Ct.n N - 1) ∧ 0 ≤ c ∧ c ≤ 14) by omega))]), ⟨(Ct.wa N), (Ct.wa P), _, _, rfl⟩⟩
  · refine x_iload_n C 2 rfl rfl dX11_arrives_11 ?_
    refine x_S_I C (As := [.int (iN (c))]) (rest := []) 1 gX11_arrives_X11_isCell (c_X11_isCell _ _ (WX X.γ b F N M P hp sd) (c) (by omega)) rfl ok_X11_isCell rfl rfl rfl rfl dX11_arrives_12 (fun r w1 hp => ?_)
    obtain ⟨rfl, rfl⟩ := hp
    refine x_ifne_bz C 20 (by decide) dX11_arrives_15 (fun c_15 => ?_) (fun c_15 => ?_)
    · refine x_aload_n C 0 rfl rfl dX11_arrives_20 ?_
      refine x_get C in_X11_arrives_X11 0 rfl rfl 2 (by decide) (List.mem_of_getElem? (i := 2) rfl) rfl (v := .ref (b 38)) rfl dX11_arrives_21 ?_
      refine x_aload_n C 0 rfl rfl dX11_arrives_24 ?_
      refine x_get C in_X11_arrives_X11 0 rfl rfl 1 (by decide) (List.mem_of_getElem? (i := 1) rfl) rfl (v := .ref (b 27)) rfl dX11_arrives_25 ?_
      refine x_V_V C (As := [.ref (b 27)]) (rest := []) 1 38 rfl rfl gX11_arrives_X1_become rfl (MV.bMN b F N M P hp sd (fun Z => Z = Ct.set_wa N (Ct.wa M)) (c_X1_become _ _ (adM b) (adN b) M N) (fun w h => ⟨_, rfl, h⟩)) rfl ok_X1_become rfl rfl rfl rfl dX11_arrives_28 (fun w1 hp => ?_)
      obtain ⟨_, rfl, rfl⟩ := hp
      refine Wx.eqW (ws' := (WX X.γ b F N (Ct.set_wa N (Ct.wa M)) P hp sd)) rfl ?_
      refine x_iconst (v := 0) C dX11_arrives_31 ?_
      refine x_istore_n C [(3, .int (iN (0))), (0, .ref (b 0)), (1, .int (iN (i))), (2, .int (iN (c)))] rfl (by decide) rfl dX11_arrives_32 ?_
      have LP33 : ∀ (f : Nat) (k : Nat) (WA : Int → Int) (v3_33 : Int), (61 - k < f) → (k ≤ 61) → (fstz (fun t => Ct.po (Ct.days N t) i - c) k = -4) → (((k : Int)) = v3_33) → Wx X 0 0 (WX X.γ b F N (Ct.set_wa (Ct.days N k) (WA)) P hp sd) 33 [(3, .int (iN (v3_33))), (0, .ref (b 0)), (1, .int (iN (i))), (2, .int (iN (c)))] [] := by
        intro f
        induction f with
        | zero => intro k WA v3_33 hf; exact absurd hf (Nat.not_lt_zero _)
        | succ f ih33 =>
          intro k WA v3_33 hf hk hf0 e3_33
          subst e3_33
          refine x_iload_n C 0 rfl rfl dX11_arrives_33 ?_
          refine x_bipush C (60) (by decide) dX11_arrives_34 ?_
          refine x_icmp_gt C 68 (by decide) (by omega) dX11_arrives_36 (fun c_36 => ?_) (fun c_36 => ?_)
          · refine x_bipush C (-4) (by decide) dX11_arrives_68 ?_
            exact hret _ _ _ _ dX11_arrives_70 rfl ⟨(by unfold q_arrives; rw [if_pos (show q_one N i ∧ q_cell c from (show (0 ≤ i ∧ i ≤ Ct.n N - 1) ∧ 0 ≤ c ∧ c ≤ 14 by omega))]; rw [show 61 = k by omega, hf0]), ⟨(Ct.wa N), (Ct.wa P), _, _, rfl⟩⟩
          · refine x_aload_n C 1 rfl rfl dX11_arrives_39 ?_
            refine x_get C in_X11_arrives_X11 0 rfl rfl 2 (by decide) (List.mem_of_getElem? (i := 2) rfl) rfl (v := .ref (b 38)) rfl dX11_arrives_40 ?_
            refine x_get C in_X11_arrives_X1 38 rfl rfl 7 (by decide) (List.mem_of_getElem? (i := 3) rfl) rfl (v := .ref (b 43)) rfl dX11_arrives_43 ?_
            refine x_iload_n C 2 rfl rfl dX11_arrives_46 ?_
            refine x_iaload C (f := Ct.po (Ct.days N k)) 43 rfl (by omega) rfl dX11_arrives_47 ?_
            have b104 := WFc.po (Ct.days_wf hN k) (i)
            refine x_iload_n C 3 rfl rfl dX11_arrives_48 ?_
            refine x_icmp_ne C 54 (by decide) (by omega) dX11_arrives_49 (fun c_49 => ?_) (fun c_49 => ?_)
            · refine x_aload_n C 1 rfl rfl dX11_arrives_54 ?_
              refine x_get C in_X11_arrives_X11 0 rfl rfl 2 (by decide) (List.mem_of_getElem? (i := 2) rfl) rfl (v := .ref (b 38)) rfl dX11_arrives_55 ?_
              refine x_V_I C (As := []) (rest := []) 0 38 rfl rfl gX11_arrives_X1_passDay rfl (MI.fM b F N (Ct.set_wa (Ct.days N k) (WA)) P hp sd (fun r Z => r = ((Ct.D (Ct.set_wa (Ct.days N k) (WA)) (Ct.n (Ct.set_wa (Ct.days N k) (WA))).toNat).2.2) ∧ (Ct.day (Ct.set_wa (Ct.days N k) (WA))) = Z) (c_X1_passDay _ _ (adM b) (Ct.set_wa (Ct.days N k) (WA)) (Ct.days_wf hN k)) (fun r w h => ⟨_, ⟨h.1, rfl⟩, h.2⟩)) rfl ok_X1_passDay rfl rfl rfl rfl dX11_arrives_58 (fun r w1 hp => ?_)
              obtain ⟨_, ⟨rfl, rfl⟩, rfl⟩ := hp
              show Wx X 0 0 (WX X.γ b F N (Ct.set_wa (Ct.day (Ct.days N k)) (WA)) P hp sd) 61 [(3, .int (iN ((k : Int)))), (0, .ref (b 0)), (1, .int (iN (i))), (2, .int (iN (c)))] [.int (iN ((Ct.D (Ct.days N k) (Ct.n (Ct.days N k)).toNat).2.2))]
              show Wx X 0 0 (WX X.γ b F N (Ct.set_wa (Ct.day (Ct.days N k)) (WA)) P hp sd) 61 [(3, .int (iN ((k : Int)))), (0, .ref (b 0)), (1, .int (iN (i))), (2, .int (iN (c)))] [.int (iN ((Ct.D (Ct.days N k) (Ct.n (Ct.days N k)).toNat).2.2))]
              refine x_pop C rfl dX11_arrives_61 ?_
              refine x_iinc C 0 [(3, .int (iN ((k : Int) + 1))), (0, .ref (b 0)), (1, .int (iN (i))), (2, .int (iN (c)))] rfl rfl (by decide) rfl dX11_arrives_62 ?_
              refine x_goto C 33 (by decide) dX11_arrives_65 ?_
              exact ih33 (k + 1) (WA) _ (by omega) (by omega) (fstz_q hf0 (show Ct.po (Ct.days N k) i - c ≠ 0 by omega)) (by omega)
            · refine x_iload_n C 0 rfl rfl dX11_arrives_52 ?_
              exact hret _ _ _ _ dX11_arrives_53 rfl ⟨(by unfold q_arrives; rw [if_pos (show q_one N i ∧ q_cell c from (show (0 ≤ i ∧ i ≤ Ct.n N - 1) ∧ 0 ≤ c ∧ c ≤ 14 by omega))]; have e1 := fstz_f hf0 (show (fun t => Ct.po (Ct.days N t) i - c) k = 0 from (show Ct.po (Ct.days N k) i - c = 0 by omega)); rw [fstz_end (fun t => Ct.po (Ct.days N t) i - c) (k := k + 1) (by omega) (Or.inr (by rw [e1]; omega)), e1]), ⟨(Ct.wa N), (Ct.wa P), _, _, rfl⟩⟩
      exact LP33 ((61 - (0)) + 1) (0) (Ct.wa M) _ (by omega) (by omega) (rfl) (by omega)
    · refine x_iconst (v := 0) C dX11_arrives_18 ?_
      exact hret _ _ _ _ dX11_arrives_19 rfl ⟨(by unfold q_arrives; rw [if_neg (show ¬ (q_one N i ∧ q_cell c) from (show ¬ ((0 ≤ i ∧ i ≤ Ct.n N - 1) ∧ 0 ≤ c ∧ c ≤ 14) by omega))]), ⟨(Ct.wa N), (Ct.wa P), _, _, rfl⟩⟩
end HXCam
