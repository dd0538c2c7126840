section HXFab
theorem in_X11_whatIs_X1 : ∀ w ∈ u_ws RX1 TX1 13, w ∈ wsX11_whatIs := by decide +kernel
theorem in_X11_whatIs_X11 : ∀ w ∈ u_ws RX11 TX11 6, w ∈ wsX11_whatIs := by decide +kernel
theorem ok_X11_whatIs : okY yX11_whatIs 3 := by decide +kernel
def rmX11_whatIs : Room := { frames := 5, cells := 0, slots := 0, locals := 134 }
set_option maxRecDepth 100000 in
set_option maxHeartbeats 400000 in
theorem c_X11_whatIs (l : Launch) (γ : GX) (b : Nat → Nat) (F : Nat → Sh) (N M P : Ct) (hp sd : Int) (hN : WFc N) (hF : ∀ t : Nat, t < 8 → WFs (F t)) (d : Int) (i : Int) (w : Int) (h0_ : -2147483648 ≤ d ∧ d < 2147483648) (h1_ : -2147483648 ≤ i ∧ i < 2147483648) (h2_ : -2147483648 ≤ w ∧ w < 2147483648) : MI l γ yX11_whatIs wsX11_whatIs rmX11_whatIs [.ref (b 0), .int (iN (d)), .int (iN (i)), .int (iN (w))] (WX γ b F N M P hp sd) (fun r_ w_ => r_ = q_whatIs d (Sh.hd (F d.toNat)) (Sh.so (F d.toNat)) (Sh.sz (F d.toNat)) (Sh.va (F d.toNat)) N i w ∧ Wc γ b F N P hp w_) 0 0 := by
  refine MI.of (cc := cX11_whatIs) (maxL := 11) (rt := .int) RX11 rfl (by decide +kernel) rfl (Nat.le_of_ble_eq_true rfl) ?_
  intro X C hγ hl hnm hret
  subst hγ
  have hNn := WFc.n hN
  show Wx X 0 0 (WX X.γ b F N M P hp sd) 0 [(0, .ref (b 0)), (1, .int (iN (d))), (2, .int (iN (i))), (3, .int (iN (w)))] []
  refine x_aload_n C 0 rfl rfl dX11_whatIs_0 ?_
  refine x_get C in_X11_whatIs_X11 0 rfl rfl 1 (by decide) (List.mem_of_getElem? (i := 1) rfl) rfl (v := .ref (b 27)) rfl dX11_whatIs_1 ?_
  refine x_iload_n C 2 rfl rfl dX11_whatIs_4 ?_
  refine x_V_I C (As := [.int (iN (i))]) (rest := []) 1 27 rfl rfl gX11_whatIs_X1_has rfl (MI.fN b F N M P hp sd (fun r Z => r = (bz (0 ≤ i ∧ i ≤ Ct.n N - 1)) ∧ N = Z) (c_X1_has _ _ (adN b) N hN (i) (by omega)) (fun r w h => ⟨_, ⟨h.1, rfl⟩, h.2⟩)) rfl ok_X1_has rfl rfl rfl rfl dX11_whatIs_5 (fun r w1 hp => ?_)
  obtain ⟨_, ⟨rfl, rfl⟩, rfl⟩ := hp
  show Wx X 0 0 (WX X.γ b F N M P hp sd) 8 [(0, .ref (b 0)), (1, .int (iN (d))), (2, .int (iN (i))), (3, .int (iN (w)))] [.int (iN (bz (0 ≤ i ∧ i ≤ Ct.n N - 1)))]
  have LP25 : ∀ (s0_25 : Int), (s0_25 = (if (0 ≤ i ∧ i ≤ Ct.n N - 1) ∧ 0 ≤ w ∧ w ≤ 1 then 1 else 0)) → Wx X 0 0 (WX X.γ b F N M P hp sd) 25 [(0, .ref (b 0)), (1, .int (iN (d))), (2, .int (iN (i))), (3, .int (iN (w)))] [.int (iN (s0_25))] := by
    intro s0_25 es0_25
    refine x_istore C [(4, .int (iN (s0_25))), (0, .ref (b 0)), (1, .int (iN (d))), (2, .int (iN (i))), (3, .int (iN (w)))] (by decide) rfl dX11_whatIs_25 ?_
    refine x_iload C 0 rfl dX11_whatIs_27 ?_
    have LP41 : ∀ (s0_41 : Int), (s0_41 = (if (0 ≤ i ∧ i ≤ Ct.n N - 1) ∧ 0 ≤ w ∧ w ≤ 1 then (if 0 ≤ d ∧ d ≤ 7 then (if Sh.hd (F d.toNat) = 0 then -11 else if Sh.hd (F d.toNat) = 2 then 0 else -12) else -1) else -1)) → Wx X 0 0 (WX X.γ b F N M P hp sd) 41 [(4, .int (iN (s0_25))), (0, .ref (b 0)), (1, .int (iN (d))), (2, .int (iN (i))), (3, .int (iN (w)))] [.int (iN (s0_41))] := by
      intro s0_41 es0_41
      refine x_istore C [(5, .int (iN (s0_41))), (4, .int (iN (s0_25))), (0, .ref (b 0)), (1, .int (iN (d))), (2, .int (iN (i))), (3, .int (iN (w)))] (by decide) rfl dX11_whatIs_41 ?_
      refine x_iload C 0 rfl dX11_whatIs_43 ?_
      refine x_if_ge C 51 (by decide) (by omega) dX11_whatIs_45 (fun c_45 => ?_) (fun c_45 => ?_)
      · refine x_iconst (v := 0) C dX11_whatIs_51 ?_
        refine x_istore C [(6, .int (iN (0))), (5, .int (iN (s0_41))), (4, .int (iN (s0_25))), (0, .ref (b 0)), (1, .int (iN (d))), (2, .int (iN (i))), (3, .int (iN (w)))] (by decide) rfl dX11_whatIs_52 ?_
        refine x_iload_n C 6 rfl rfl dX11_whatIs_54 ?_
        have LP65 : ∀ (s0_65 : Int), (s0_65 = (if w = 0 then 8 else 10)) → Wx X 0 0 (WX X.γ b F N M P hp sd) 65 [(6, .int (iN (0))), (5, .int (iN (s0_41))), (4, .int (iN (s0_25))), (0, .ref (b 0)), (1, .int (iN (d))), (2, .int (iN (i))), (3, .int (iN (w)))] [.int (iN (s0_65))] := by
          intro s0_65 es0_65
          refine x_istore C [(7, .int (iN (s0_65))), (6, .int (iN (0))), (5, .int (iN (s0_41))), (4, .int (iN (s0_25))), (0, .ref (b 0)), (1, .int (iN (d))), (2, .int (iN (i))), (3, .int (iN (w)))] (by decide) rfl dX11_whatIs_65 ?_
          refine x_iconst (v := 0) C dX11_whatIs_67 ?_
          refine x_istore C [(8, .int (iN (0))), (7, .int (iN (s0_65))), (6, .int (iN (0))), (5, .int (iN (s0_41))), (4, .int (iN (s0_25))), (0, .ref (b 0)), (1, .int (iN (d))), (2, .int (iN (i))), (3, .int (iN (w)))] (by decide) rfl dX11_whatIs_68 ?_
          have LP70 : ∀ (f : Nat) (k : Nat) (M1 : Ct) (v8_70 : Int) (v6_70 : Int), (10 - k < f) → ((k : Int) ≤ if w = 0 then 8 else 10) → (((k : Int)) = v8_70) → (v6_70 = (bitz (fun t => whis N (Sh.so (F d.toNat)) i (Sh.va (F d.toNat)) (Sh.sz (F d.toNat)).toNat w t ≠ 0) k)) → Wx X 0 0 (WX X.γ b F N M1 P hp sd) 70 [(8, .int (iN (v8_70))), (7, .int (iN (s0_65))), (6, .int (iN (v6_70))), (5, .int (iN (s0_41))), (4, .int (iN (s0_25))), (0, .ref (b 0)), (1, .int (iN (d))), (2, .int (iN (i))), (3, .int (iN (w)))] [] := by
            intro f
            induction f with
            | zero => intro k M1 v8_70 v6_70 hf; exact absurd hf (Nat.not_lt_zero _)
            | succ f ih70 =>
              intro k M1 v8_70 v6_70 hf hk e8_70 e6_70
              subst e8_70
              refine x_iload C 0 rfl dX11_whatIs_70 ?_
              refine x_iload C 1 rfl dX11_whatIs_72 ?_
              refine x_icmp_ge C 154 (by decide) (by omega) dX11_whatIs_74 (fun c_74 => ?_) (fun c_74 => ?_)
              · refine x_iload C 2 rfl dX11_whatIs_154 ?_
                exact hret _ _ _ _ dX11_whatIs_156 rfl ⟨(by unfold q_whatIs; rw [if_pos (show q_one N i ∧ 0 ≤ w ∧ w ≤ 1 from (show (0 ≤ i ∧ i ≤ Ct.n N - 1) ∧ 0 ≤ w ∧ w ≤ 1 by omega))]; unfold q_wr; rw [if_pos (show 0 ≤ d ∧ d ≤ 7 by omega), if_neg (show ¬ Sh.hd (F d.toNat) = 0 by omega), if_pos (show Sh.hd (F d.toNat) = 2 by omega)]; rw [e6_70, show k = (if w = 0 then 8 else 10) by split <;> omega]), ⟨(Ct.wa N), (Ct.wa P), _, _, rfl⟩⟩
              · refine x_iload_n C 8 rfl rfl dX11_whatIs_77 ?_
                have LP95 : ∀ (s0_95 : Int), (s0_95 = (if w = 0 then (k : Int) else Ct.kd N i)) → Wx X 0 0 (WX X.γ b F N M1 P hp sd) 95 [(8, .int (iN ((k : Int)))), (7, .int (iN (s0_65))), (6, .int (iN (v6_70))), (5, .int (iN (s0_41))), (4, .int (iN (s0_25))), (0, .ref (b 0)), (1, .int (iN (d))), (2, .int (iN (i))), (3, .int (iN (w)))] [.int (iN (s0_95))] := by
                  intro s0_95 es0_95
                  have hs95 : 0 ≤ s0_95 ∧ s0_95 ≤ 7 := by have b1 := WFc.kd hN i; omega
                  refine x_istore C [(9, .int (iN (s0_95))), (8, .int (iN ((k : Int)))), (7, .int (iN (s0_65))), (6, .int (iN (v6_70))), (5, .int (iN (s0_41))), (4, .int (iN (s0_25))), (0, .ref (b 0)), (1, .int (iN (d))), (2, .int (iN (i))), (3, .int (iN (w)))] (by decide) rfl dX11_whatIs_95 ?_
                  refine x_iload_n C 9 rfl rfl dX11_whatIs_97 ?_
                  have LP115 : ∀ (s0_115 : Int), (s0_115 = (if w = 0 then Ct.fg N i else (k : Int))) → Wx X 0 0 (WX X.γ b F N M1 P hp sd) 115 [(9, .int (iN (s0_95))), (8, .int (iN ((k : Int)))), (7, .int (iN (s0_65))), (6, .int (iN (v6_70))), (5, .int (iN (s0_41))), (4, .int (iN (s0_25))), (0, .ref (b 0)), (1, .int (iN (d))), (2, .int (iN (i))), (3, .int (iN (w)))] [.int (iN (s0_115))] := by
                    intro s0_115 es0_115
                    have hs115 : 0 ≤ s0_115 ∧ s0_115 ≤ 9 := by have b1 := WFc.fg hN i; omega
                    refine x_istore C [(10, .int (iN (s0_115))), (9, .int (iN (s0_95))), (8, .int (iN ((k : Int)))), (7, .int (iN (s0_65))), (6, .int (iN (v6_70))), (5, .int (iN (s0_41))), (4, .int (iN (s0_25))), (0, .ref (b 0)), (1, .int (iN (d))), (2, .int (iN (i))), (3, .int (iN (w)))] (by decide) rfl dX11_whatIs_115 ?_
                    refine x_aload_n C 7 rfl rfl dX11_whatIs_117 ?_
                    refine x_iload_n C 8 rfl rfl dX11_whatIs_118 ?_
                    refine x_iload_n C 9 rfl rfl dX11_whatIs_119 ?_
                    refine x_iload C 1 rfl dX11_whatIs_120 ?_
                    refine x_iload C 0 rfl dX11_whatIs_122 ?_
                    refine x_aload_n C 7 rfl rfl dX11_whatIs_124 ?_
                    refine x_get C in_X11_whatIs_X11 0 rfl rfl 1 (by decide) (List.mem_of_getElem? (i := 1) rfl) rfl (v := .ref (b 27)) rfl dX11_whatIs_125 ?_
                    refine x_get C in_X11_whatIs_X1 27 rfl rfl 6 (by decide) (List.mem_of_getElem? (i := 4) rfl) rfl (v := .ref (b 31)) rfl dX11_whatIs_128 ?_
                    refine x_iload_n C 9 rfl rfl dX11_whatIs_131 ?_
                    refine x_iaload C (f := Ct.ag N) 31 rfl (by omega) rfl dX11_whatIs_132 ?_
                    have b129 := WFc.ag hN (i)
                    refine x_V_I C (As := [.int (iN (d)), .int (iN (i)), .int (iN (s0_95)), .int (iN (s0_115)), .int (iN (Ct.ag N i))]) (rest := []) 5 0 rfl rfl gX11_whatIs_X11_isAsToldBy rfl (c_X11_isAsToldBy _ _ b F N M1 P hp sd hN hF (d) (i) (s0_95) (s0_115) (Ct.ag N i) (by omega) (by omega) (by omega) (by omega) (by omega)) rfl ok_X11_isAsToldBy rfl rfl rfl rfl dX11_whatIs_133 (fun r w1 hp => ?_)
                    obtain ⟨rfl, Mb130, rfl⟩ := hp
                    show Wx X 0 0 (WX X.γ b F N Mb130 P hp sd) 136 [(10, .int (iN (s0_115))), (9, .int (iN (s0_95))), (8, .int (iN ((k : Int)))), (7, .int (iN (s0_65))), (6, .int (iN (v6_70))), (5, .int (iN (s0_41))), (4, .int (iN (s0_25))), (0, .ref (b 0)), (1, .int (iN (d))), (2, .int (iN (i))), (3, .int (iN (w)))] [.int (iN (rok (Ct.nat N i s0_95 s0_115 (Ct.ag N i)) (Sh.so (F d.toNat)) i (Sh.va (F d.toNat)) (Sh.sz (F d.toNat)).toNat))]
                    obtain ⟨rr, hrr⟩ : ∃ rr : Int, rok (Ct.nat N i s0_95 s0_115 (Ct.ag N i)) (Sh.so (F d.toNat)) i (Sh.va (F d.toNat)) (Sh.sz (F d.toNat)).toNat = rr := ⟨_, rfl⟩
                    rw [hrr]
                    have hr01 : rr = 0 ∨ rr = 1 := by rw [← hrr]; exact rok_01 _ _ _ _ _
                    have hag : whis N (Sh.so (F d.toNat)) i (Sh.va (F d.toNat)) (Sh.sz (F d.toNat)).toNat w (k : Int) = rr := by unfold whis; rw [show (if w = 0 then (k : Int) else Ct.kd N i) = s0_95 from es0_95.symm, show (if w = 1 then (k : Int) else Ct.fg N i) = s0_115 by omega]; exact hrr
                    refine x_if_eq C 148 (by decide) (by omega) dX11_whatIs_136 (fun c_136 => ?_) (fun c_136 => ?_)
                    · refine x_iinc C 2 [(8, .int (iN ((k : Int) + 1))), (10, .int (iN (s0_115))), (9, .int (iN (s0_95))), (7, .int (iN (s0_65))), (6, .int (iN (v6_70))), (5, .int (iN (s0_41))), (4, .int (iN (s0_25))), (0, .ref (b 0)), (1, .int (iN (d))), (2, .int (iN (i))), (3, .int (iN (w)))] rfl rfl (by decide) rfl dX11_whatIs_148 ?_
                      refine x_goto C 70 (by decide) dX11_whatIs_151 ?_
                      refine Wx.subL [0, 3, 4, 5, 6, 7, 8, 9, 10] rfl ?_
                      exact ih70 (k + 1) (Mb130) _ _ (by omega) (by omega) (by omega) (by simp only [bitz]; rw [if_neg (fun z => z (by rw [hag]; omega))]; exact e6_70)
                    · refine x_iload C 4 rfl dX11_whatIs_139 ?_
                      refine x_iconst (v := 0) C dX11_whatIs_141 ?_
                      refine x_iload C 2 rfl dX11_whatIs_142 ?_
                      refine x_ishl C (2 ^ k) (by rw [iN_shl1 (by omega), Int.toNat_natCast]) dX11_whatIs_144 ?_
                      refine x_ior C (v6_70 + 2 ^ k) (by rw [e6_70]; exact iN_orp (bitz_b (fun t => whis N (Sh.so (F d.toNat)) i (Sh.va (F d.toNat)) (Sh.sz (F d.toNat)).toNat w t ≠ 0) k) (by omega)) dX11_whatIs_145 ?_
                      refine x_istore C [(6, .int (iN (v6_70 + 2 ^ k))), (10, .int (iN (s0_115))), (9, .int (iN (s0_95))), (8, .int (iN ((k : Int)))), (7, .int (iN (s0_65))), (5, .int (iN (s0_41))), (4, .int (iN (s0_25))), (0, .ref (b 0)), (1, .int (iN (d))), (2, .int (iN (i))), (3, .int (iN (w)))] (by decide) rfl dX11_whatIs_146 ?_
                      refine x_iinc C 3 [(8, .int (iN ((k : Int) + 1))), (6, .int (iN (v6_70 + 2 ^ k))), (10, .int (iN (s0_115))), (9, .int (iN (s0_95))), (7, .int (iN (s0_65))), (5, .int (iN (s0_41))), (4, .int (iN (s0_25))), (0, .ref (b 0)), (1, .int (iN (d))), (2, .int (iN (i))), (3, .int (iN (w)))] rfl rfl (by decide) rfl dX11_whatIs_148 ?_
                      refine x_goto C 70 (by decide) dX11_whatIs_151 ?_
                      refine Wx.subL [0, 4, 1, 5, 6, 7, 8, 9, 10] rfl ?_
                      exact ih70 (k + 1) (Mb130) _ _ (by omega) (by omega) (by omega) (by simp only [bitz]; rw [if_pos (show whis N (Sh.so (F d.toNat)) i (Sh.va (F d.toNat)) (Sh.sz (F d.toNat)).toNat w (k : Int) ≠ 0 by rw [hag]; omega), e6_70])
                  refine x_if_ne C 113 (by decide) (by omega) dX11_whatIs_98 (fun c_98 => ?_) (fun c_98 => ?_)
                  · refine x_iload C 1 rfl dX11_whatIs_113 ?_
                    exact LP115 _ (by omega)
                  · refine x_aload_n C 6 rfl rfl dX11_whatIs_101 ?_
                    refine x_get C in_X11_whatIs_X11 0 rfl rfl 1 (by decide) (List.mem_of_getElem? (i := 1) rfl) rfl (v := .ref (b 27)) rfl dX11_whatIs_102 ?_
                    refine x_get C in_X11_whatIs_X1 27 rfl rfl 5 (by decide) (List.mem_of_getElem? (i := 3) rfl) rfl (v := .ref (b 30)) rfl dX11_whatIs_105 ?_
                    refine x_iload_n C 8 rfl rfl dX11_whatIs_108 ?_
                    refine x_iaload C (f := Ct.fg N) 30 rfl (by omega) rfl dX11_whatIs_109 ?_
                    have b131 := WFc.fg hN (i)
                    refine x_goto C 115 (by decide) dX11_whatIs_110 ?_
                    exact LP115 _ (by omega)
                refine x_if_ne C 86 (by decide) (by omega) dX11_whatIs_78 (fun c_78 => ?_) (fun c_78 => ?_)
                · refine x_aload_n C 5 rfl rfl dX11_whatIs_86 ?_
                  refine x_get C in_X11_whatIs_X11 0 rfl rfl 1 (by decide) (List.mem_of_getElem? (i := 1) rfl) rfl (v := .ref (b 27)) rfl dX11_whatIs_87 ?_
                  refine x_get C in_X11_whatIs_X1 27 rfl rfl 4 (by decide) (List.mem_of_getElem? (i := 2) rfl) rfl (v := .ref (b 29)) rfl dX11_whatIs_90 ?_
                  refine x_iload_n C 7 rfl rfl dX11_whatIs_93 ?_
                  refine x_iaload C (f := Ct.kd N) 29 rfl (by omega) rfl dX11_whatIs_94 ?_
                  have b132 := WFc.kd hN (i)
                  exact LP95 _ (by omega)
                · refine x_iload C 0 rfl dX11_whatIs_81 ?_
                  refine x_goto C 95 (by decide) dX11_whatIs_83 ?_
                  exact LP95 _ (by omega)
          exact LP70 ((10 - (0)) + 1) (0) (M) _ _ (by omega) (by omega) (by omega) (rfl)
        refine x_if_ne C 63 (by decide) (by omega) dX11_whatIs_55 (fun c_55 => ?_) (fun c_55 => ?_)
        · refine x_bipush C (10) (by decide) dX11_whatIs_63 ?_
          exact LP65 _ (by omega)
        · refine x_bipush C (8) (by decide) dX11_whatIs_58 ?_
          refine x_goto C 65 (by decide) dX11_whatIs_60 ?_
          exact LP65 _ (by omega)
      · refine x_iload C 0 rfl dX11_whatIs_48 ?_
        exact hret _ _ _ _ dX11_whatIs_50 rfl ⟨(by by_cases hq : (0 ≤ i ∧ i ≤ Ct.n N - 1) ∧ 0 ≤ w ∧ w ≤ 1; (unfold q_whatIs; rw [if_pos (show q_one N i ∧ 0 ≤ w ∧ w ≤ 1 from hq)]; unfold q_wr; omega); (unfold q_whatIs; rw [if_neg (show ¬ (q_one N i ∧ 0 ≤ w ∧ w ≤ 1) from hq)]; omega)), ⟨(Ct.wa N), (Ct.wa P), _, _, rfl⟩⟩
    refine x_if_eq C 40 (by decide) (by omega) dX11_whatIs_29 (fun c_29 => ?_) (fun c_29 => ?_)
    · refine x_iconst (v := 0) C dX11_whatIs_40 ?_
      exact LP41 _ (by omega)
    · refine x_aload_n C 1 rfl rfl dX11_whatIs_32 ?_
      refine x_iload_n C 2 rfl rfl dX11_whatIs_33 ?_
      refine x_V_I C (As := [.int (iN (d))]) (rest := []) 1 0 rfl rfl gX11_whatIs_X11_rowRefusal rfl (c_X11_rowRefusal _ _ b F N M P hp sd hN hF (d) (by omega)) rfl ok_X11_rowRefusal rfl rfl rfl rfl dX11_whatIs_34 (fun r w1 hp => ?_)
      obtain ⟨rfl, rfl⟩ := hp
      show Wx X 0 0 (WX X.γ b F N M P hp sd) 37 [(4, .int (iN (s0_25))), (0, .ref (b 0)), (1, .int (iN (d))), (2, .int (iN (i))), (3, .int (iN (w)))] [.int (iN (if 0 ≤ d ∧ d ≤ 7 then (if Sh.hd (F d.toNat) = 0 then -11 else if Sh.hd (F d.toNat) = 2 then 0 else -12) else -1))]
      refine x_goto C 41 (by decide) dX11_whatIs_37 ?_
      exact LP41 _ (by omega)
  refine x_ifeq_bz C 24 (by decide) dX11_whatIs_8 (fun c_8 => ?_) (fun c_8 => ?_)
  · refine x_iconst (v := 0) C dX11_whatIs_24 ?_
    exact LP25 _ (by omega)
  · refine x_iload_n C 3 rfl rfl dX11_whatIs_11 ?_
    refine x_iconst (v := 0) C dX11_whatIs_12 ?_
    refine x_iconst (v := 0) C dX11_whatIs_13 ?_
    refine x_S_I C (As := [.int (iN (w)), .int (iN (0)), .int (iN (1))]) (rest := []) 3 gX11_whatIs_X11_isWithin (c_X11_isWithin _ _ (WX X.γ b F N M P hp sd) (w) (0) (1) (by omega) (by omega) (by omega)) rfl ok_X11_isWithin rfl rfl rfl rfl dX11_whatIs_14 (fun r w1 hp => ?_)
    obtain ⟨rfl, rfl⟩ := hp
    refine x_ifeq_bz C 24 (by decide) dX11_whatIs_17 (fun c_17 => ?_) (fun c_17 => ?_)
    · refine x_iconst (v := 0) C dX11_whatIs_24 ?_
      exact LP25 _ (by omega)
    · refine x_iconst (v := 0) C dX11_whatIs_20 ?_
      refine x_goto C 25 (by decide) dX11_whatIs_21 ?_
      exact LP25 _ (by omega)
end HXFab
