section HXEac
theorem in_X11_even_X1 : ∀ w ∈ u_ws RX1 TX1 13, w ∈ wsX11_even := by decide +kernel
theorem in_X11_even_X11 : ∀ w ∈ u_ws RX11 TX11 6, w ∈ wsX11_even := by decide +kernel
theorem ok_X11_even : okY yX11_even 0 := by decide +kernel
def rmX11_even : Room := { frames := 4, cells := 0, slots := 0, locals := 105 }
set_option maxRecDepth 100000 in
set_option maxHeartbeats 400000 in
theorem c_X11_even (l : Launch) (γ : GX) (b : Nat → Nat) (F : Nat → Sh) (N M P : Ct) (hp sd : Int) (hN : WFc N) (hF : ∀ t : Nat, t < 8 → WFs (F t)) : MI l γ yX11_even wsX11_even rmX11_even [.ref (b 0)] (WX γ b F N M P hp sd) (fun r_ w_ => r_ = q_even N ∧ Wc γ b F N P hp w_) 0 0 := by
  refine MI.of (cc := cX11_even) (maxL := 6) (rt := .int) RX11 rfl (by decide +kernel) rfl (Nat.le_of_ble_eq_true rfl) ?_
  intro X C hγ hl hnm hret
  subst hγ
  have hNn := WFc.n hN
  show Wx X 0 0 (WX X.γ b F N M P hp sd) 0 [(0, .ref (b 0))] []
  refine x_bipush C (-4) (by decide) dX11_even_0 ?_
  refine x_istore_n C [(1, .int (iN (-4))), (0, .ref (b 0))] rfl (by decide) rfl dX11_even_2 ?_
  refine x_aload_n C 1 rfl rfl dX11_even_3 ?_
  refine x_get C in_X11_even_X11 0 rfl rfl 1 (by decide) (List.mem_of_getElem? (i := 1) rfl) rfl (v := .ref (b 27)) rfl dX11_even_4 ?_
  refine x_aload_n C 1 rfl rfl dX11_even_7 ?_
  refine x_get C in_X11_even_X11 0 rfl rfl 1 (by decide) (List.mem_of_getElem? (i := 1) rfl) rfl (v := .ref (b 27)) rfl dX11_even_8 ?_
  refine x_V_I C (As := []) (rest := [.ref (b 27)]) 0 27 rfl rfl gX11_even_X1_steepestCell rfl (MI.fN b F N M P hp sd (fun r Z => r = (stpc (Ct.s N) 13) ∧ N = Z) (c_X1_steepestCell _ _ (adN b) N hN) (fun r w h => ⟨_, ⟨h.1, rfl⟩, h.2⟩)) rfl ok_X1_steepestCell rfl rfl rfl rfl dX11_even_11 (fun r w1 hp => ?_)
  obtain ⟨_, ⟨rfl, rfl⟩, rfl⟩ := hp
  show Wx X 0 0 (WX X.γ b F N M P hp sd) 14 [(1, .int (iN (-4))), (0, .ref (b 0))] [.int (iN (stpc (Ct.s N) 13)), .ref (b 27)]
  show Wx X 0 0 (WX X.γ b F N M P hp sd) 14 [(1, .int (iN (-4))), (0, .ref (b 0))] [.int (iN (stpc (Ct.s N) 13)), .ref (b 27)]
  have b121 := stpc_b (Ct.s N) 13
  refine x_V_I C (As := [.int (iN (stpc (Ct.s N) 13))]) (rest := []) 1 27 rfl rfl gX11_even_X1_steepness rfl (MI.fN b F N M P hp sd (fun r Z => r = (Ct.s N (stpc (Ct.s N) 13)) ∧ N = Z) (c_X1_steepness _ _ (adN b) N hN (stpc (Ct.s N) 13) (by omega)) (fun r w h => ⟨_, ⟨h.1, rfl⟩, h.2⟩)) rfl ok_X1_steepness rfl rfl rfl rfl dX11_even_14 (fun r w1 hp => ?_)
  obtain ⟨_, ⟨rfl, rfl⟩, rfl⟩ := hp
  show Wx X 0 0 (WX X.γ b F N M P hp sd) 17 [(1, .int (iN (-4))), (0, .ref (b 0))] [.int (iN (Ct.s N (stpc (Ct.s N) 13)))]
  show Wx X 0 0 (WX X.γ b F N M P hp sd) 17 [(1, .int (iN (-4))), (0, .ref (b 0))] [.int (iN (Ct.s N (stpc (Ct.s N) 13)))]
  have b122 := WFc.s hN (stpc (Ct.s N) 13)
  rw [show Ct.s N (stpc (Ct.s N) 13) = mxz (Ct.s N) 14 from (mxz_stpc (WFc.s hN) 13).symm]
  refine x_istore_n C [(2, .int (iN (mxz (Ct.s N) 14))), (1, .int (iN (-4))), (0, .ref (b 0))] rfl (by decide) rfl dX11_even_17 ?_
  refine x_iconst (v := 0) C dX11_even_18 ?_
  refine x_istore_n C [(3, .int (iN (0))), (2, .int (iN (mxz (Ct.s N) 14))), (1, .int (iN (-4))), (0, .ref (b 0))] rfl (by decide) rfl dX11_even_19 ?_
  have LP20 : ∀ (f : Nat) (m : Nat) (M1 : Ct) (v3_20 : Int) (v2_20 : Int) (v1_20 : Int), ((Ct.n N).toNat - m < f) → (m ≤ (Ct.n N).toNat) → (((m : Int)) = v3_20) → (v2_20 = (evB N m)) → (v1_20 = (evI N m)) → Wx X 0 0 (WX X.γ b F N M1 P hp sd) 20 [(3, .int (iN (v3_20))), (2, .int (iN (v2_20))), (1, .int (iN (v1_20))), (0, .ref (b 0))] [] := by
    intro f
    induction f with
    | zero => intro m M1 v3_20 v2_20 v1_20 hf; exact absurd hf (Nat.not_lt_zero _)
    | succ f ih20 =>
      intro m M1 v3_20 v2_20 v1_20 hf hm e3_20 e2_20 e1_20
      subst e3_20
      have bB := evB_b hN m
      refine x_iload_n C 0 rfl rfl dX11_even_20 ?_
      refine x_aload_n C 3 rfl rfl dX11_even_21 ?_
      refine x_get C in_X11_even_X11 0 rfl rfl 1 (by decide) (List.mem_of_getElem? (i := 1) rfl) rfl (v := .ref (b 27)) rfl dX11_even_22 ?_
      refine x_get C in_X11_even_X1 27 rfl rfl 2 (by decide) (List.mem_of_getElem? (i := 2) rfl) rfl (v := .int (iN (Ct.n N))) rfl dX11_even_25 ?_
      refine x_icmp_ge C 108 (by decide) (by omega) dX11_even_28 (fun c_28 => ?_) (fun c_28 => ?_)
      · refine x_iload_n C 2 rfl rfl dX11_even_108 ?_
        exact hret _ _ _ _ dX11_even_109 rfl ⟨(by have hz9 : m = (Ct.n N).toNat := (by omega); subst hz9; exact e1_20), ⟨(Ct.wa N), (Ct.wa P), _, _, rfl⟩⟩
      · refine x_aload_n C 3 rfl rfl dX11_even_31 ?_
        refine x_get C in_X11_even_X11 0 rfl rfl 2 (by decide) (List.mem_of_getElem? (i := 3) rfl) rfl (v := .ref (b 38)) rfl dX11_even_32 ?_
        refine x_aload_n C 3 rfl rfl dX11_even_35 ?_
        refine x_get C in_X11_even_X11 0 rfl rfl 1 (by decide) (List.mem_of_getElem? (i := 1) rfl) rfl (v := .ref (b 27)) rfl dX11_even_36 ?_
        refine x_V_V C (As := [.ref (b 27)]) (rest := []) 1 38 rfl rfl gX11_even_X1_become rfl (MV.bMN b F N M1 P hp sd (fun Z => Z = Ct.set_wa N (Ct.wa M1)) (c_X1_become _ _ (adM b) (adN b) M1 N) (fun w h => ⟨_, rfl, h⟩)) rfl ok_X1_become rfl rfl rfl rfl dX11_even_39 (fun w1 hp => ?_)
        obtain ⟨_, rfl, rfl⟩ := hp
        refine Wx.eqW (ws' := (WX X.γ b F N (Ct.set_wa N (Ct.wa M1)) P hp sd)) rfl ?_
        refine x_iconst (v := 0) C dX11_even_42 ?_
        refine x_istore C [(4, .int (iN (0))), (3, .int (iN ((m : Int)))), (2, .int (iN (v2_20))), (1, .int (iN (v1_20))), (0, .ref (b 0))] (by decide) rfl dX11_even_43 ?_
        have LP45 : ∀ (f : Nat) (k : Nat) (x : Int) (WA : Int → Int) (v4_45 : Int) (v2_45 : Int) (v1_45 : Int), (15 - k < f) → (k ≤ 15) → (((k : Int)) = v4_45) → (v2_45 = (evb N (m : Int) v2_20 k)) → (v1_45 = (evi N (m : Int) v2_20 v1_20 k)) → Wx X 0 0 (WX X.γ b F N (Ct.set_wa (Ct.set_po N (upz (Ct.po N) (m : Int) x)) (WA)) P hp sd) 45 [(4, .int (iN (v4_45))), (3, .int (iN ((m : Int)))), (2, .int (iN (v2_45))), (1, .int (iN (v1_45))), (0, .ref (b 0))] [] := by
          intro f
          induction f with
          | zero => intro k x WA v4_45 v2_45 v1_45 hf; exact absurd hf (Nat.not_lt_zero _)
          | succ f ih45 =>
            intro k x WA v4_45 v2_45 v1_45 hf hk e4_45 e2_45 e1_45
            subst e4_45
            have bb := evb_b hN (m : Int) (b0 := v2_20) (by omega) k hk
            refine x_iload C 0 rfl dX11_even_45 ?_
            refine x_bipush C (15) (by decide) dX11_even_47 ?_
            refine x_icmp_ge C 102 (by decide) (by omega) dX11_even_49 (fun c_49 => ?_) (fun c_49 => ?_)
            · refine x_iinc C 1 [(3, .int (iN ((m : Int) + 1))), (4, .int (iN ((k : Int)))), (2, .int (iN (v2_45))), (1, .int (iN (v1_45))), (0, .ref (b 0))] rfl rfl (by decide) rfl dX11_even_102 ?_
              refine x_goto C 20 (by decide) dX11_even_105 ?_
              refine Wx.subL [0, 2, 3, 4] rfl ?_
              exact ih20 (m + 1) ((Ct.set_wa (Ct.set_po N (upz (Ct.po N) (m : Int) x)) (WA))) _ _ _ (by omega) (by omega) (by omega) (by have hz9 : k = 15 := (by omega); subst hz9; show _ = evb N (m : Int) (evB N m) 15; rw [← e2_20, e2_45]) (by have hz9 : k = 15 := (by omega); subst hz9; show _ = evi N (m : Int) (evB N m) (evI N m) 15; rw [← e1_20, ← e2_20, e1_45])
            · refine x_aload_n C 4 rfl rfl dX11_even_52 ?_
              refine x_get C in_X11_even_X11 0 rfl rfl 2 (by decide) (List.mem_of_getElem? (i := 3) rfl) rfl (v := .ref (b 38)) rfl dX11_even_53 ?_
              refine x_get C in_X11_even_X1 38 rfl rfl 7 (by decide) (List.mem_of_getElem? (i := 4) rfl) rfl (v := .ref (b 43)) rfl dX11_even_56 ?_
              refine x_iload_n C 1 rfl rfl dX11_even_59 ?_
              refine x_iload C 0 rfl dX11_even_60 ?_
              refine x_iastore C (f := (upz (Ct.po N) (m : Int) x)) 43 rfl (by omega) rfl (WX X.γ b F N (Ct.set_wa (Ct.set_po N (upz (upz (Ct.po N) (m : Int) x) (m : Int) (k : Int))) (WA)) P hp sd) rfl dX11_even_62 ?_
              refine Wx.eqW (ws' := (WX X.γ b F N (Ct.set_wa (Ct.set_po N (upz (Ct.po N) (m : Int) (k : Int))) (WA)) P hp sd)) (by rw [upz_upz]) ?_
              refine x_aload_n C 4 rfl rfl dX11_even_63 ?_
              refine x_get C in_X11_even_X11 0 rfl rfl 2 (by decide) (List.mem_of_getElem? (i := 3) rfl) rfl (v := .ref (b 38)) rfl dX11_even_64 ?_
              refine x_aload_n C 4 rfl rfl dX11_even_67 ?_
              refine x_get C in_X11_even_X11 0 rfl rfl 2 (by decide) (List.mem_of_getElem? (i := 3) rfl) rfl (v := .ref (b 38)) rfl dX11_even_68 ?_
              refine x_V_I C (As := []) (rest := [.ref (b 38)]) 0 38 rfl rfl gX11_even_X1_steepestCell rfl (MI.fM b F N (Ct.set_wa (Ct.set_po N (upz (Ct.po N) (m : Int) (k : Int))) (WA)) P hp sd (fun r Z => r = (stpc (Ct.s (Ct.set_po N (upz (Ct.po N) (m : Int) (k : Int)))) 13) ∧ (Ct.set_wa (Ct.set_po N (upz (Ct.po N) (m : Int) (k : Int))) (WA)) = Z) (c_X1_steepestCell _ _ (adM b) (Ct.set_wa (Ct.set_po N (upz (Ct.po N) (m : Int) (k : Int))) (WA)) (WFc.posn hN (bd_upz (i := (m : Int)) (WFc.po hN) (show 0 ≤ (k : Int) ∧ (k : Int) ≤ 14 by omega)))) (fun r w h => ⟨_, ⟨h.1, rfl⟩, h.2⟩)) rfl ok_X1_steepestCell rfl rfl rfl rfl dX11_even_71 (fun r w1 hp => ?_)
              obtain ⟨_, ⟨rfl, rfl⟩, rfl⟩ := hp
              show Wx X 0 0 (WX X.γ b F N (Ct.set_wa (Ct.set_po N (upz (Ct.po N) (m : Int) (k : Int))) (WA)) P hp sd) 74 [(4, .int (iN ((k : Int)))), (3, .int (iN ((m : Int)))), (2, .int (iN (v2_45))), (1, .int (iN (v1_45))), (0, .ref (b 0))] [.int (iN (stpc (Ct.s (Ct.set_po N (upz (Ct.po N) (m : Int) (k : Int)))) 13)), .ref (b 38)]
              show Wx X 0 0 (WX X.γ b F N (Ct.set_wa (Ct.set_po N (upz (Ct.po N) (m : Int) (k : Int))) (WA)) P hp sd) 74 [(4, .int (iN ((k : Int)))), (3, .int (iN ((m : Int)))), (2, .int (iN (v2_45))), (1, .int (iN (v1_45))), (0, .ref (b 0))] [.int (iN (stpc (Ct.s (Ct.set_po N (upz (Ct.po N) (m : Int) (k : Int)))) 13)), .ref (b 38)]
              have b123 := stpc_b (Ct.s (Ct.set_po N (upz (Ct.po N) (m : Int) (k : Int)))) 13
              refine x_V_I C (As := [.int (iN (stpc (Ct.s (Ct.set_po N (upz (Ct.po N) (m : Int) (k : Int)))) 13))]) (rest := []) 1 38 rfl rfl gX11_even_X1_steepness rfl (MI.fM b F N (Ct.set_wa (Ct.set_po N (upz (Ct.po N) (m : Int) (k : Int))) (WA)) P hp sd (fun r Z => r = (Ct.s (Ct.set_po N (upz (Ct.po N) (m : Int) (k : Int))) (stpc (Ct.s (Ct.set_po N (upz (Ct.po N) (m : Int) (k : Int)))) 13)) ∧ (Ct.set_wa (Ct.set_po N (upz (Ct.po N) (m : Int) (k : Int))) (WA)) = Z) (c_X1_steepness _ _ (adM b) (Ct.set_wa (Ct.set_po N (upz (Ct.po N) (m : Int) (k : Int))) (WA)) (WFc.posn hN (bd_upz (i := (m : Int)) (WFc.po hN) (show 0 ≤ (k : Int) ∧ (k : Int) ≤ 14 by omega))) (stpc (Ct.s (Ct.set_po N (upz (Ct.po N) (m : Int) (k : Int)))) 13) (by omega)) (fun r w h => ⟨_, ⟨h.1, rfl⟩, h.2⟩)) rfl ok_X1_steepness rfl rfl rfl rfl dX11_even_74 (fun r w1 hp => ?_)
              obtain ⟨_, ⟨rfl, rfl⟩, rfl⟩ := hp
              show Wx X 0 0 (WX X.γ b F N (Ct.set_wa (Ct.set_po N (upz (Ct.po N) (m : Int) (k : Int))) (WA)) P hp sd) 77 [(4, .int (iN ((k : Int)))), (3, .int (iN ((m : Int)))), (2, .int (iN (v2_45))), (1, .int (iN (v1_45))), (0, .ref (b 0))] [.int (iN (Ct.s (Ct.set_po N (upz (Ct.po N) (m : Int) (k : Int))) (stpc (Ct.s (Ct.set_po N (upz (Ct.po N) (m : Int) (k : Int)))) 13)))]
              show Wx X 0 0 (WX X.γ b F N (Ct.set_wa (Ct.set_po N (upz (Ct.po N) (m : Int) (k : Int))) (WA)) P hp sd) 77 [(4, .int (iN ((k : Int)))), (3, .int (iN ((m : Int)))), (2, .int (iN (v2_45))), (1, .int (iN (v1_45))), (0, .ref (b 0))] [.int (iN (Ct.s (Ct.set_po N (upz (Ct.po N) (m : Int) (k : Int))) (stpc (Ct.s (Ct.set_po N (upz (Ct.po N) (m : Int) (k : Int)))) 13)))]
              have b124 := WFc.s (WFc.posn hN (bd_upz (i := (m : Int)) (WFc.po hN) (show 0 ≤ (k : Int) ∧ (k : Int) ≤ 14 by omega))) (stpc (Ct.s (Ct.set_po N (upz (Ct.po N) (m : Int) (k : Int)))) 13)
              rw [show Ct.s (Ct.set_po N (upz (Ct.po N) (m : Int) (k : Int))) (stpc (Ct.s (Ct.set_po N (upz (Ct.po N) (m : Int) (k : Int)))) 13) = gz N (m : Int) (k : Int) from (mxz_stpc (WFc.s (WFc.posn hN (bd_upz (i := (m : Int)) (WFc.po hN) (show 0 ≤ (k : Int) ∧ (k : Int) ≤ 14 by omega)))) 13).symm]
              obtain ⟨gq, hgq⟩ : ∃ z : Int, gz N (m : Int) (k : Int) = z := ⟨_, rfl⟩
              rw [hgq]
              have bgq : 0 ≤ gq ∧ gq ≤ 20 := by rw [← hgq]; exact mxz_b (WFc.s (WFc.posn hN (bd_upz (i := (m : Int)) (WFc.po hN) (show 0 ≤ (k : Int) ∧ (k : Int) ≤ 14 by omega)))) 14
              refine x_istore C [(5, .int (iN (gq))), (4, .int (iN ((k : Int)))), (3, .int (iN ((m : Int)))), (2, .int (iN (v2_45))), (1, .int (iN (v1_45))), (0, .ref (b 0))] (by decide) rfl dX11_even_77 ?_
              refine x_iload C 0 rfl dX11_even_79 ?_
              refine x_iload_n C 3 rfl rfl dX11_even_81 ?_
              refine x_icmp_ge C 96 (by decide) (by omega) dX11_even_82 (fun c_82 => ?_) (fun c_82 => ?_)
              · refine x_iinc C 1 [(4, .int (iN ((k : Int) + 1))), (5, .int (iN (gq))), (3, .int (iN ((m : Int)))), (2, .int (iN (v2_45))), (1, .int (iN (v1_45))), (0, .ref (b 0))] rfl rfl (by decide) rfl dX11_even_96 ?_
                refine x_goto C 45 (by decide) dX11_even_99 ?_
                refine Wx.subL [0, 2, 3, 4, 5] rfl ?_
                exact ih45 (k + 1) ((k : Int)) (WA) _ _ _ (by omega) (by omega) (by omega) (by simp only [evb]; rw [hgq, ← e2_45]; rw [if_neg (by omega)]) (by simp only [evi]; rw [hgq, ← e2_45]; rw [if_neg (by omega)]; exact e1_45)
              · refine x_iload C 0 rfl dX11_even_85 ?_
                refine x_istore_n C [(2, .int (iN (gq))), (5, .int (iN (gq))), (4, .int (iN ((k : Int)))), (3, .int (iN ((m : Int)))), (1, .int (iN (v1_45))), (0, .ref (b 0))] rfl (by decide) rfl dX11_even_87 ?_
                refine x_bipush C (100) (by decide) dX11_even_88 ?_
                refine x_iload_n C 3 rfl rfl dX11_even_90 ?_
                refine x_imul C dX11_even_91 ?_
                refine x_iload C 2 rfl dX11_even_92 ?_
                refine x_iadd C dX11_even_94 ?_
                refine x_istore_n C [(1, .int (iN ((100 * (m : Int)) + (k : Int)))), (2, .int (iN (gq))), (5, .int (iN (gq))), (4, .int (iN ((k : Int)))), (3, .int (iN ((m : Int)))), (0, .ref (b 0))] rfl (by decide) rfl dX11_even_95 ?_
                refine x_iinc C 3 [(4, .int (iN ((k : Int) + 1))), (1, .int (iN ((100 * (m : Int)) + (k : Int)))), (2, .int (iN (gq))), (5, .int (iN (gq))), (3, .int (iN ((m : Int)))), (0, .ref (b 0))] rfl rfl (by decide) rfl dX11_even_96 ?_
                refine x_goto C 45 (by decide) dX11_even_99 ?_
                refine Wx.subL [0, 4, 2, 1, 5] rfl ?_
                exact ih45 (k + 1) ((k : Int)) (WA) _ _ _ (by omega) (by omega) (by omega) (by simp only [evb]; rw [hgq, ← e2_45]; rw [if_pos c_82]) (by simp only [evi]; rw [hgq, ← e2_45]; rw [if_pos c_82])
        refine Wx.eqW (ws' := (WX X.γ b F N (Ct.set_wa (Ct.set_po N (upz (Ct.po N) (m : Int) (Ct.po N (m : Int)))) (Ct.wa M1)) P hp sd)) (by rw [upz_id]) ?_
        exact LP45 ((15 - (0)) + 1) (0) (Ct.po N (m : Int)) (Ct.wa M1) _ _ _ (by omega) (by omega) (by omega) (rfl) (rfl)
  exact LP20 (((Ct.n N).toNat - (0)) + 1) (0) (M) _ _ _ (by omega) (by omega) (by omega) (rfl) (rfl)
end HXEac
