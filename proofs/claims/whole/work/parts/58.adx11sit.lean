section HXDad
theorem in_X11_sit_X1 : ∀ w ∈ u_ws RX1 TX1 13, w ∈ wsX11_sit := by decide +kernel
theorem in_X11_sit_X11 : ∀ w ∈ u_ws RX11 TX11 6, w ∈ wsX11_sit := by decide +kernel
theorem ok_X11_sit : okY yX11_sit 2 := by decide +kernel
def rmX11_sit : Room := { frames := 3, cells := 0, slots := 0, locals := 105 }
set_option maxRecDepth 100000 in
set_option maxHeartbeats 400000 in
theorem c_X11_sit (l : Launch) (γ : GX) (b : Nat → Nat) (F : Nat → Sh) (N M P : Ct) (hp sd : Int) (hN : WFc N) (hF : ∀ t : Nat, t < 8 → WFs (F t)) (i : Int) (w : Int) (h0_ : -2147483648 ≤ i ∧ i < 2147483648) (h1_ : -2147483648 ≤ w ∧ w < 2147483648) : MI l γ yX11_sit wsX11_sit rmX11_sit [.ref (b 0), .int (iN (i)), .int (iN (w))] (WX γ b F N M P hp sd) (fun r_ w_ => r_ = q_sit N i w ∧ Wc γ b F N P hp w_) 0 0 := by
  refine MI.of (cc := cX11_sit) (maxL := 7) (rt := .int) RX11 rfl (by decide +kernel) rfl (Nat.le_of_ble_eq_true rfl) ?_
  intro X C hγ hl hnm hret
  subst hγ
  have hNn := WFc.n hN
  show Wx X 0 0 (WX X.γ b F N M P hp sd) 0 [(0, .ref (b 0)), (1, .int (iN (i))), (2, .int (iN (w)))] []
  refine x_aload_n C 0 rfl rfl dX11_sit_0 ?_
  refine x_get C in_X11_sit_X11 0 rfl rfl 1 (by decide) (List.mem_of_getElem? (i := 1) rfl) rfl (v := .ref (b 27)) rfl dX11_sit_1 ?_
  refine x_iload_n C 1 rfl rfl dX11_sit_4 ?_
  refine x_V_I C (As := [.int (iN (i))]) (rest := []) 1 27 rfl rfl gX11_sit_X1_has rfl (MI.fN b F N M P hp sd (fun r Z => r = (bz (0 ≤ i ∧ i ≤ Ct.n N - 1)) ∧ N = Z) (c_X1_has _ _ (adN b) N hN (i) (by omega)) (fun r w h => ⟨_, ⟨h.1, rfl⟩, h.2⟩)) rfl ok_X1_has rfl rfl rfl rfl dX11_sit_5 (fun r w1 hp => ?_)
  obtain ⟨_, ⟨rfl, rfl⟩, rfl⟩ := hp
  show Wx X 0 0 (WX X.γ b F N M P hp sd) 8 [(0, .ref (b 0)), (1, .int (iN (i))), (2, .int (iN (w)))] [.int (iN (bz (0 ≤ i ∧ i ≤ Ct.n N - 1)))]
  refine x_ifeq_bz C 20 (by decide) dX11_sit_8 (fun c_8 => ?_) (fun c_8 => ?_)
  · refine x_iconst (v := 0) C dX11_sit_20 ?_
    exact hret _ _ _ _ dX11_sit_21 rfl ⟨(by unfold q_sit; rw [if_neg (show ¬ (q_one N i ∧ 0 ≤ w ∧ w ≤ 1) from (show ¬ ((0 ≤ i ∧ i ≤ Ct.n N - 1) ∧ 0 ≤ w ∧ w ≤ 1) by omega))]), ⟨(Ct.wa N), (Ct.wa P), _, _, rfl⟩⟩
  · refine x_iload_n C 2 rfl rfl dX11_sit_11 ?_
    refine x_iconst (v := 0) C dX11_sit_12 ?_
    refine x_iconst (v := 0) C dX11_sit_13 ?_
    refine x_S_I C (As := [.int (iN (w)), .int (iN (0)), .int (iN (1))]) (rest := []) 3 gX11_sit_X11_isWithin (c_X11_isWithin _ _ (WX X.γ b F N M P hp sd) (w) (0) (1) (by omega) (by omega) (by omega)) rfl ok_X11_isWithin rfl rfl rfl rfl dX11_sit_14 (fun r w1 hp => ?_)
    obtain ⟨rfl, rfl⟩ := hp
    refine x_ifne_bz C 22 (by decide) dX11_sit_17 (fun c_17 => ?_) (fun c_17 => ?_)
    · refine x_aload_n C 0 rfl rfl dX11_sit_22 ?_
      refine x_get C in_X11_sit_X11 0 rfl rfl 2 (by decide) (List.mem_of_getElem? (i := 2) rfl) rfl (v := .ref (b 38)) rfl dX11_sit_23 ?_
      refine x_aload_n C 0 rfl rfl dX11_sit_26 ?_
      refine x_get C in_X11_sit_X11 0 rfl rfl 1 (by decide) (List.mem_of_getElem? (i := 1) rfl) rfl (v := .ref (b 27)) rfl dX11_sit_27 ?_
      refine x_V_V C (As := [.ref (b 27)]) (rest := []) 1 38 rfl rfl gX11_sit_X1_become rfl (MV.bMN b F N M P hp sd (fun Z => Z = Ct.set_wa N (Ct.wa M)) (c_X1_become _ _ (adM b) (adN b) M N) (fun w h => ⟨_, rfl, h⟩)) rfl ok_X1_become rfl rfl rfl rfl dX11_sit_30 (fun w1 hp => ?_)
      obtain ⟨_, rfl, rfl⟩ := hp
      refine Wx.eqW (ws' := (WX X.γ b F N (Ct.set_wa N (Ct.wa M)) P hp sd)) rfl ?_
      refine x_iconst (v := 0) C dX11_sit_33 ?_
      refine x_istore_n C [(3, .int (iN (0))), (0, .ref (b 0)), (1, .int (iN (i))), (2, .int (iN (w)))] rfl (by decide) rfl dX11_sit_34 ?_
      refine x_iconst (v := 0) C dX11_sit_35 ?_
      refine x_istore C [(4, .int (iN (0))), (3, .int (iN (0))), (0, .ref (b 0)), (1, .int (iN (i))), (2, .int (iN (w)))] (by decide) rfl dX11_sit_36 ?_
      refine x_iconst (v := 0) C dX11_sit_38 ?_
      refine x_istore C [(5, .int (iN (0))), (4, .int (iN (0))), (3, .int (iN (0))), (0, .ref (b 0)), (1, .int (iN (i))), (2, .int (iN (w)))] (by decide) rfl dX11_sit_39 ?_
      have LP41 : ∀ (f : Nat) (k : Nat) (x : Int) (WA : Int → Int) (v5_41 : Int) (v4_41 : Int) (v3_41 : Int), (15 - k < f) → (k ≤ 15) → (((k : Int)) = v5_41) → (v4_41 = (if k = 0 then 0 else siw N i k)) → (v3_41 = (sic N i k)) → Wx X 0 0 (WX X.γ b F N (Ct.set_wa (Ct.set_po N (upz (Ct.po N) i x)) (WA)) P hp sd) 41 [(5, .int (iN (v5_41))), (4, .int (iN (v4_41))), (3, .int (iN (v3_41))), (0, .ref (b 0)), (1, .int (iN (i))), (2, .int (iN (w)))] [] := by
        intro f
        induction f with
        | zero => intro k x WA v5_41 v4_41 v3_41 hf; exact absurd hf (Nat.not_lt_zero _)
        | succ f ih41 =>
          intro k x WA v5_41 v4_41 v3_41 hf hk e5_41 e4_41 e3_41
          subst e5_41
          have bsi := siw_b hN i k hk
          have bsp : k = 0 ∨ 0 ≤ siw N i k := by by_cases q : k = 0; exact Or.inl q; exact Or.inr (siw_p hN i k (by omega) hk)
          have hsz : k = 0 → siw N i k < 0 := fun q => by subst q; show (-1 : Int) < 0; decide
          refine x_iload C 0 rfl dX11_sit_41 ?_
          refine x_bipush C (15) (by decide) dX11_sit_43 ?_
          refine x_icmp_ge C 93 (by decide) (by omega) dX11_sit_45 (fun c_45 => ?_) (fun c_45 => ?_)
          · refine x_iload_n C 5 rfl rfl dX11_sit_93 ?_
            refine x_if_ne C 101 (by decide) (by omega) dX11_sit_94 (fun c_94 => ?_) (fun c_94 => ?_)
            · refine x_iload C 1 rfl dX11_sit_101 ?_
              exact hret _ _ _ _ dX11_sit_103 rfl ⟨(by have hz : k = 15 := (by omega); subst hz; unfold q_sit; rw [if_pos (show q_one N i ∧ 0 ≤ w ∧ w ≤ 1 from (show (0 ≤ i ∧ i ≤ Ct.n N - 1) ∧ 0 ≤ w ∧ w ≤ 1 by omega)), if_neg (show ¬ w = 0 by omega), e4_41, if_neg (by decide)]), ⟨(Ct.wa N), (Ct.wa P), _, _, rfl⟩⟩
            · refine x_iload_n C 2 rfl rfl dX11_sit_97 ?_
              refine x_goto C 103 (by decide) dX11_sit_98 ?_
              exact hret _ _ _ _ dX11_sit_103 rfl ⟨(by have hz : k = 15 := (by omega); subst hz; unfold q_sit; rw [if_pos (show q_one N i ∧ 0 ≤ w ∧ w ≤ 1 from (show (0 ≤ i ∧ i ≤ Ct.n N - 1) ∧ 0 ≤ w ∧ w ≤ 1 by omega)), if_pos (show w = 0 by omega)]; exact e3_41), ⟨(Ct.wa N), (Ct.wa P), _, _, rfl⟩⟩
          · refine x_aload_n C 3 rfl rfl dX11_sit_48 ?_
            refine x_get C in_X11_sit_X11 0 rfl rfl 2 (by decide) (List.mem_of_getElem? (i := 2) rfl) rfl (v := .ref (b 38)) rfl dX11_sit_49 ?_
            refine x_get C in_X11_sit_X1 38 rfl rfl 7 (by decide) (List.mem_of_getElem? (i := 3) rfl) rfl (v := .ref (b 43)) rfl dX11_sit_52 ?_
            refine x_iload_n C 4 rfl rfl dX11_sit_55 ?_
            refine x_iload C 0 rfl dX11_sit_56 ?_
            refine x_iastore C (f := (upz (Ct.po N) i x)) 43 rfl (by omega) rfl (WX X.γ b F N (Ct.set_wa (Ct.set_po N (upz (upz (Ct.po N) i x) i (k : Int))) (WA)) P hp sd) rfl dX11_sit_58 ?_
            refine Wx.eqW (ws' := (WX X.γ b F N (Ct.set_wa (Ct.set_po N (upz (Ct.po N) i (k : Int))) (WA)) P hp sd)) (by rw [upz_upz]) ?_
            refine x_aload_n C 3 rfl rfl dX11_sit_59 ?_
            refine x_get C in_X11_sit_X11 0 rfl rfl 2 (by decide) (List.mem_of_getElem? (i := 2) rfl) rfl (v := .ref (b 38)) rfl dX11_sit_60 ?_
            refine x_V_I C (As := []) (rest := []) 0 38 rfl rfl gX11_sit_X1_allWater rfl (MI.fM b F N (Ct.set_wa (Ct.set_po N (upz (Ct.po N) i (k : Int))) (WA)) P hp sd (fun r Z => r = (Ct.allW (Ct.set_po N (upz (Ct.po N) i (k : Int)))) ∧ (Ct.set_wa (Ct.set_po N (upz (Ct.po N) i (k : Int))) (Ct.w (Ct.set_wa (Ct.set_po N (upz (Ct.po N) i (k : Int))) (WA)))) = Z) (c_X1_allWater _ _ (adM b) (Ct.set_wa (Ct.set_po N (upz (Ct.po N) i (k : Int))) (WA)) (WFc.posn hN (bd_upz (i := i) (WFc.po hN) (show 0 ≤ (k : Int) ∧ (k : Int) ≤ 14 by omega)))) (fun r w h => ⟨_, ⟨h.1, rfl⟩, h.2⟩)) rfl ok_X1_allWater rfl rfl rfl rfl dX11_sit_63 (fun r w1 hp => ?_)
            obtain ⟨_, ⟨rfl, rfl⟩, rfl⟩ := hp
            show Wx X 0 0 (WX X.γ b F N (Ct.set_wa (Ct.set_po N (upz (Ct.po N) i (k : Int))) (Ct.w (Ct.set_wa (Ct.set_po N (upz (Ct.po N) i (k : Int))) (WA)))) P hp sd) 66 [(5, .int (iN ((k : Int)))), (4, .int (iN (v4_41))), (3, .int (iN (v3_41))), (0, .ref (b 0)), (1, .int (iN (i))), (2, .int (iN (w)))] [.int (iN (Ct.allW (Ct.set_po N (upz (Ct.po N) i (k : Int)))))]
            show Wx X 0 0 (WX X.γ b F N (Ct.set_wa (Ct.set_po N (upz (Ct.po N) i (k : Int))) (Ct.w (Ct.set_wa (Ct.set_po N (upz (Ct.po N) i (k : Int))) (WA)))) P hp sd) 66 [(5, .int (iN ((k : Int)))), (4, .int (iN (v4_41))), (3, .int (iN (v3_41))), (0, .ref (b 0)), (1, .int (iN (i))), (2, .int (iN (w)))] [.int (iN (Ct.allW (Ct.set_po N (upz (Ct.po N) i (k : Int)))))]
            have b117 := WFc.allW (WFc.posn hN (bd_upz (i := i) (WFc.po hN) (show 0 ≤ (k : Int) ∧ (k : Int) ≤ 14 by omega)))
            rw [show Ct.allW (Ct.set_po N (upz (Ct.po N) i (k : Int))) = swz N i (k : Int) from rfl]
            obtain ⟨sw, hsw⟩ : ∃ z : Int, swz N i (k : Int) = z := ⟨_, rfl⟩
            rw [hsw]
            have bsw : 0 ≤ sw ∧ sw ≤ 300 := by rw [← hsw]; exact WFc.allW (WFc.posn hN (bd_upz (i := i) (WFc.po hN) (show 0 ≤ (k : Int) ∧ (k : Int) ≤ 14 by omega)))
            refine x_istore C [(6, .int (iN (sw))), (5, .int (iN ((k : Int)))), (4, .int (iN (v4_41))), (3, .int (iN (v3_41))), (0, .ref (b 0)), (1, .int (iN (i))), (2, .int (iN (w)))] (by decide) rfl dX11_sit_66 ?_
            refine x_iload C 1 rfl dX11_sit_68 ?_
            refine x_if_eq C 80 (by decide) (by omega) dX11_sit_70 (fun c_70 => ?_) (fun c_70 => ?_)
            · refine x_iload C 0 rfl dX11_sit_80 ?_
              refine x_istore C [(4, .int (iN (sw))), (6, .int (iN (sw))), (5, .int (iN ((k : Int)))), (3, .int (iN (v3_41))), (0, .ref (b 0)), (1, .int (iN (i))), (2, .int (iN (w)))] (by decide) rfl dX11_sit_82 ?_
              refine x_iload C 2 rfl dX11_sit_84 ?_
              refine x_istore_n C [(3, .int (iN ((k : Int)))), (4, .int (iN (sw))), (6, .int (iN (sw))), (5, .int (iN ((k : Int)))), (0, .ref (b 0)), (1, .int (iN (i))), (2, .int (iN (w)))] rfl (by decide) rfl dX11_sit_86 ?_
              refine x_iinc C 3 [(5, .int (iN ((k : Int) + 1))), (3, .int (iN ((k : Int)))), (4, .int (iN (sw))), (6, .int (iN (sw))), (0, .ref (b 0)), (1, .int (iN (i))), (2, .int (iN (w)))] rfl rfl (by decide) rfl dX11_sit_87 ?_
              refine x_goto C 41 (by decide) dX11_sit_90 ?_
              refine Wx.subL [0, 2, 1, 4, 5, 6] rfl ?_
              exact ih41 (k + 1) ((k : Int)) (Ct.w (Ct.set_wa (Ct.set_po N (upz (Ct.po N) i (k : Int))) (WA))) _ _ _ (by omega) (by omega) (by omega) (by rw [if_neg (by omega)]; simp only [siw]; rw [hsw]; rw [if_pos (by omega)]) (by simp only [sic]; rw [hsw]; rw [if_pos (by omega)])
            · refine x_iload C 0 rfl dX11_sit_73 ?_
              refine x_iload C 2 rfl dX11_sit_75 ?_
              refine x_icmp_ge C 87 (by decide) (by omega) dX11_sit_77 (fun c_77 => ?_) (fun c_77 => ?_)
              · refine x_iinc C 1 [(5, .int (iN ((k : Int) + 1))), (6, .int (iN (sw))), (4, .int (iN (v4_41))), (3, .int (iN (v3_41))), (0, .ref (b 0)), (1, .int (iN (i))), (2, .int (iN (w)))] rfl rfl (by decide) rfl dX11_sit_87 ?_
                refine x_goto C 41 (by decide) dX11_sit_90 ?_
                refine Wx.subL [0, 2, 3, 4, 5, 6] rfl ?_
                exact ih41 (k + 1) ((k : Int)) (Ct.w (Ct.set_wa (Ct.set_po N (upz (Ct.po N) i (k : Int))) (WA))) _ _ _ (by omega) (by omega) (by omega) (by rw [if_neg (by omega)]; simp only [siw]; rw [hsw]; rw [if_neg (by omega)]; omega) (by simp only [sic]; rw [hsw]; rw [if_neg (by omega)]; exact e3_41)
              · refine x_iload C 0 rfl dX11_sit_80 ?_
                refine x_istore C [(4, .int (iN (sw))), (6, .int (iN (sw))), (5, .int (iN ((k : Int)))), (3, .int (iN (v3_41))), (0, .ref (b 0)), (1, .int (iN (i))), (2, .int (iN (w)))] (by decide) rfl dX11_sit_82 ?_
                refine x_iload C 2 rfl dX11_sit_84 ?_
                refine x_istore_n C [(3, .int (iN ((k : Int)))), (4, .int (iN (sw))), (6, .int (iN (sw))), (5, .int (iN ((k : Int)))), (0, .ref (b 0)), (1, .int (iN (i))), (2, .int (iN (w)))] rfl (by decide) rfl dX11_sit_86 ?_
                refine x_iinc C 3 [(5, .int (iN ((k : Int) + 1))), (3, .int (iN ((k : Int)))), (4, .int (iN (sw))), (6, .int (iN (sw))), (0, .ref (b 0)), (1, .int (iN (i))), (2, .int (iN (w)))] rfl rfl (by decide) rfl dX11_sit_87 ?_
                refine x_goto C 41 (by decide) dX11_sit_90 ?_
                refine Wx.subL [0, 2, 1, 4, 5, 6] rfl ?_
                exact ih41 (k + 1) ((k : Int)) (Ct.w (Ct.set_wa (Ct.set_po N (upz (Ct.po N) i (k : Int))) (WA))) _ _ _ (by omega) (by omega) (by omega) (by rw [if_neg (by omega)]; simp only [siw]; rw [hsw]; rw [if_pos (by omega)]) (by simp only [sic]; rw [hsw]; rw [if_pos (by omega)])
      refine Wx.eqW (ws' := (WX X.γ b F N (Ct.set_wa (Ct.set_po N (upz (Ct.po N) i (Ct.po N i))) (Ct.wa M)) P hp sd)) (by rw [upz_id]) ?_
      exact LP41 ((15 - (0)) + 1) (0) (Ct.po N i) (Ct.wa M) _ _ _ (by omega) (by omega) (by omega) (rfl) (rfl)
    · refine x_iconst (v := 0) C dX11_sit_20 ?_
      exact hret _ _ _ _ dX11_sit_21 rfl ⟨(by unfold q_sit; rw [if_neg (show ¬ (q_one N i ∧ 0 ≤ w ∧ w ≤ 1) from (show ¬ ((0 ≤ i ∧ i ≤ Ct.n N - 1) ∧ 0 ≤ w ∧ w ≤ 1) by omega))]), ⟨(Ct.wa N), (Ct.wa P), _, _, rfl⟩⟩
end HXDad
