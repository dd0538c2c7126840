section HXFac
theorem in_X11_two_X11 : ∀ w ∈ u_ws RX11 TX11 6, w ∈ wsX11_two := by decide +kernel
theorem ok_X11_two : okY yX11_two 2 := by decide +kernel
def rmX11_two : Room := { frames := 3, cells := 0, slots := 0, locals := 105 }
set_option maxRecDepth 100000 in
set_option maxHeartbeats 400000 in
theorem c_X11_two (l : Launch) (γ : GX) (b : Nat → Nat) (F : Nat → Sh) (N M P : Ct) (hp sd : Int) (hN : WFc N) (hF : ∀ t : Nat, t < 8 → WFs (F t)) (i : Int) (j : Int) (h0_ : -2147483648 ≤ i ∧ i < 2147483648) (h1_ : -2147483648 ≤ j ∧ j < 2147483648) : MI l γ yX11_two wsX11_two rmX11_two [.ref (b 0), .int (iN (i)), .int (iN (j))] (WX γ b F N M P hp sd) (fun r_ w_ => r_ = q_two N i j ∧ Wc γ b F N P hp w_) 0 0 := by
  refine MI.of (cc := cX11_two) (maxL := 7) (rt := .int) RX11 rfl (by decide +kernel) rfl (Nat.le_of_ble_eq_true rfl) ?_
  intro X C hγ hl hnm hret
  subst hγ
  have hNn := WFc.n hN
  show Wx X 0 0 (WX X.γ b F N M P hp sd) 0 [(0, .ref (b 0)), (1, .int (iN (i))), (2, .int (iN (j)))] []
  refine x_aload_n C 0 rfl rfl dX11_two_0 ?_
  refine x_get C in_X11_two_X11 0 rfl rfl 1 (by decide) (List.mem_of_getElem? (i := 1) rfl) rfl (v := .ref (b 27)) rfl dX11_two_1 ?_
  refine x_iload_n C 1 rfl rfl dX11_two_4 ?_
  refine x_V_I C (As := [.int (iN (i))]) (rest := []) 1 27 rfl rfl gX11_two_X1_has rfl (MI.fN b F N M P hp sd (fun r Z => r = (bz (0 ≤ i ∧ i ≤ Ct.n N - 1)) ∧ N = Z) (c_X1_has _ _ (adN b) N hN (i) (by omega)) (fun r w h => ⟨_, ⟨h.1, rfl⟩, h.2⟩)) rfl ok_X1_has rfl rfl rfl rfl dX11_two_5 (fun r w1 hp => ?_)
  obtain ⟨_, ⟨rfl, rfl⟩, rfl⟩ := hp
  show Wx X 0 0 (WX X.γ b F N M P hp sd) 8 [(0, .ref (b 0)), (1, .int (iN (i))), (2, .int (iN (j)))] [.int (iN (bz (0 ≤ i ∧ i ≤ Ct.n N - 1)))]
  refine x_ifeq_bz C 27 (by decide) dX11_two_8 (fun c_8 => ?_) (fun c_8 => ?_)
  · refine x_iconst (v := 0) C dX11_two_27 ?_
    exact hret _ _ _ _ dX11_two_28 rfl ⟨(by unfold q_two; rw [if_neg (show ¬ (q_one N i ∧ q_one N j ∧ i ≠ j) from (show ¬ ((0 ≤ i ∧ i ≤ Ct.n N - 1) ∧ (0 ≤ j ∧ j ≤ Ct.n N - 1) ∧ i ≠ j) by omega))]), ⟨(Ct.wa N), (Ct.wa P), _, _, rfl⟩⟩
  · refine x_aload_n C 0 rfl rfl dX11_two_11 ?_
    refine x_get C in_X11_two_X11 0 rfl rfl 1 (by decide) (List.mem_of_getElem? (i := 1) rfl) rfl (v := .ref (b 27)) rfl dX11_two_12 ?_
    refine x_iload_n C 2 rfl rfl dX11_two_15 ?_
    refine x_V_I C (As := [.int (iN (j))]) (rest := []) 1 27 rfl rfl gX11_two_X1_has rfl (MI.fN b F N M P hp sd (fun r Z => r = (bz (0 ≤ j ∧ j ≤ Ct.n N - 1)) ∧ N = Z) (c_X1_has _ _ (adN b) N hN (j) (by omega)) (fun r w h => ⟨_, ⟨h.1, rfl⟩, h.2⟩)) rfl ok_X1_has rfl rfl rfl rfl dX11_two_16 (fun r w1 hp => ?_)
    obtain ⟨_, ⟨rfl, rfl⟩, rfl⟩ := hp
    show Wx X 0 0 (WX X.γ b F N M P hp sd) 19 [(0, .ref (b 0)), (1, .int (iN (i))), (2, .int (iN (j)))] [.int (iN (bz (0 ≤ j ∧ j ≤ Ct.n N - 1)))]
    refine x_ifeq_bz C 27 (by decide) dX11_two_19 (fun c_19 => ?_) (fun c_19 => ?_)
    · refine x_iconst (v := 0) C dX11_two_27 ?_
      exact hret _ _ _ _ dX11_two_28 rfl ⟨(by unfold q_two; rw [if_neg (show ¬ (q_one N i ∧ q_one N j ∧ i ≠ j) from (show ¬ ((0 ≤ i ∧ i ≤ Ct.n N - 1) ∧ (0 ≤ j ∧ j ≤ Ct.n N - 1) ∧ i ≠ j) by omega))]), ⟨(Ct.wa N), (Ct.wa P), _, _, rfl⟩⟩
    · refine x_iload_n C 1 rfl rfl dX11_two_22 ?_
      refine x_iload_n C 2 rfl rfl dX11_two_23 ?_
      refine x_icmp_ne C 29 (by decide) (by omega) dX11_two_24 (fun c_24 => ?_) (fun c_24 => ?_)
      · refine x_iconst (v := 0) C dX11_two_29 ?_
        refine x_istore_n C [(3, .int (iN (0))), (0, .ref (b 0)), (1, .int (iN (i))), (2, .int (iN (j)))] rfl (by decide) rfl dX11_two_30 ?_
        have LP31 : ∀ (f : Nat) (x : Nat) (M1 : Ct) (v3_31 : Int), (2 - x < f) → (x ≤ 2) → (fstz (twf N i j) (2 * x) = -4) → (((x : Int)) = v3_31) → Wx X 0 0 (WX X.γ b F N M1 P hp sd) 31 [(3, .int (iN (v3_31))), (0, .ref (b 0)), (1, .int (iN (i))), (2, .int (iN (j)))] [] := by
          intro f
          induction f with
          | zero => intro x M1 v3_31 hf; exact absurd hf (Nat.not_lt_zero _)
          | succ f ih31 =>
            intro x M1 v3_31 hf hx hf e3_31
            subst e3_31
            refine x_iload_n C 0 rfl rfl dX11_two_31 ?_
            refine x_iconst (v := 0) C dX11_two_32 ?_
            refine x_icmp_ge C 135 (by decide) (by omega) dX11_two_33 (fun c_33 => ?_) (fun c_33 => ?_)
            · refine x_bipush C (-4) (by decide) dX11_two_135 ?_
              exact hret _ _ _ _ dX11_two_137 rfl ⟨(by unfold q_two; rw [if_pos (show q_one N i ∧ q_one N j ∧ i ≠ j from ⟨(show 0 ≤ i ∧ i ≤ Ct.n N - 1 by omega), (show 0 ≤ j ∧ j ≤ Ct.n N - 1 by omega), c_24⟩), show (4 : Nat) = 2 * x by omega, hf, if_pos (by decide)]), ⟨(Ct.wa N), (Ct.wa P), _, _, rfl⟩⟩
            · refine x_iconst (v := 0) C dX11_two_36 ?_
              refine x_istore C [(4, .int (iN (0))), (3, .int (iN ((x : Int)))), (0, .ref (b 0)), (1, .int (iN (i))), (2, .int (iN (j)))] (by decide) rfl dX11_two_37 ?_
              have LP39 : ∀ (f : Nat) (y : Nat) (M2 : Ct) (v4_39 : Int), (2 - y < f) → (y ≤ 2) → (fstz (twf N i j) (2 * x + y) = -4) → (((y : Int)) = v4_39) → Wx X 0 0 (WX X.γ b F N M2 P hp sd) 39 [(4, .int (iN (v4_39))), (3, .int (iN ((x : Int)))), (0, .ref (b 0)), (1, .int (iN (i))), (2, .int (iN (j)))] [] := by
                intro f
                induction f with
                | zero => intro y M2 v4_39 hf; exact absurd hf (Nat.not_lt_zero _)
                | succ f ih39 =>
                  intro y M2 v4_39 hf hy hf3 e4_39
                  subst e4_39
                  refine x_iload C 0 rfl dX11_two_39 ?_
                  refine x_iconst (v := 0) C dX11_two_41 ?_
                  refine x_icmp_ge C 129 (by decide) (by omega) dX11_two_42 (fun c_42 => ?_) (fun c_42 => ?_)
                  · refine x_iinc C 1 [(3, .int (iN ((x : Int) + 1))), (4, .int (iN ((y : Int)))), (0, .ref (b 0)), (1, .int (iN (i))), (2, .int (iN (j)))] rfl rfl (by decide) rfl dX11_two_129 ?_
                    refine x_goto C 31 (by decide) dX11_two_132 ?_
                    refine Wx.subL [0, 2, 3, 4] rfl ?_
                    exact ih31 (x + 1) (M2) _ (by omega) (by omega) (by rw [show 2 * (x + 1) = 2 * x + y by omega]; exact hf3) (by omega)
                  · refine x_aload_n C 2 rfl rfl dX11_two_45 ?_
                    refine x_iload_n C 3 rfl rfl dX11_two_46 ?_
                    refine x_iload_n C 4 rfl rfl dX11_two_47 ?_
                    refine x_iload_n C 1 rfl rfl dX11_two_48 ?_
                    refine x_iload C 0 rfl dX11_two_49 ?_
                    refine x_V_I C (As := [.int (iN (i)), .int (iN (j)), .int (iN ((x : Int))), .int (iN ((y : Int)))]) (rest := []) 4 0 rfl rfl gX11_two_X11_levelUnder rfl (c_X11_levelUnder _ _ b F N M2 P hp sd hN hF (i) (j) ((x : Int)) ((y : Int)) (by omega) (by omega) (by omega) (by omega) (by omega)) rfl ok_X11_levelUnder rfl rfl rfl rfl dX11_two_51 (fun r w1 hp => ?_)
                    obtain ⟨rfl, Mb133, rfl⟩ := hp
                    show Wx X 0 0 (WX X.γ b F N Mb133 P hp sd) 54 [(4, .int (iN ((y : Int)))), (3, .int (iN ((x : Int)))), (0, .ref (b 0)), (1, .int (iN (i))), (2, .int (iN (j)))] [.int (iN (Ct.g (Ct.set_po N (upz (upz (Ct.po N) i (if ((x : Int)) = 0 then Ct.po N i else Ct.po N j)) j (if ((y : Int)) = 0 then Ct.po N j else Ct.po N i))) (if ((x : Int)) = 0 then Ct.po N i else Ct.po N j)))]
                    rw [show Ct.g (Ct.set_po N (upz (upz (Ct.po N) i (if ((x : Int)) = 0 then Ct.po N i else Ct.po N j)) j (if ((y : Int)) = 0 then Ct.po N j else Ct.po N i))) (if ((x : Int)) = 0 then Ct.po N i else Ct.po N j) = twu N i j (2 * ((x : Int)) + ((y : Int))) from lv_u (ch := (x : Int)) (co := (y : Int)) (by omega) (by omega)]
                    have b134 := twu_b hN i j (2 * ((x : Int)) + ((y : Int)))
                    refine x_aload_n C 2 rfl rfl dX11_two_54 ?_
                    refine x_iload_n C 3 rfl rfl dX11_two_55 ?_
                    refine x_iload_n C 4 rfl rfl dX11_two_56 ?_
                    refine x_iconst (v := 0) C dX11_two_57 ?_
                    refine x_iload_n C 1 rfl rfl dX11_two_58 ?_
                    refine x_isub C dX11_two_59 ?_
                    refine x_iload C 0 rfl dX11_two_60 ?_
                    refine x_V_I C (As := [.int (iN (i)), .int (iN (j)), .int (iN (1 - (x : Int))), .int (iN ((y : Int)))]) (rest := [.int (iN (twu N i j (2 * ((x : Int)) + ((y : Int)))))]) 4 0 rfl rfl gX11_two_X11_levelUnder rfl (c_X11_levelUnder _ _ b F N Mb133 P hp sd hN hF (i) (j) (1 - (x : Int)) ((y : Int)) (by omega) (by omega) (by omega) (by omega) (by omega)) rfl ok_X11_levelUnder rfl rfl rfl rfl dX11_two_62 (fun r w1 hp => ?_)
                    obtain ⟨rfl, Mb135, rfl⟩ := hp
                    show Wx X 0 0 (WX X.γ b F N Mb135 P hp sd) 65 [(4, .int (iN ((y : Int)))), (3, .int (iN ((x : Int)))), (0, .ref (b 0)), (1, .int (iN (i))), (2, .int (iN (j)))] [.int (iN (Ct.g (Ct.set_po N (upz (upz (Ct.po N) i (if (1 - (x : Int)) = 0 then Ct.po N i else Ct.po N j)) j (if ((y : Int)) = 0 then Ct.po N j else Ct.po N i))) (if (1 - (x : Int)) = 0 then Ct.po N i else Ct.po N j))), .int (iN (twu N i j (2 * ((x : Int)) + ((y : Int)))))]
                    rw [show Ct.g (Ct.set_po N (upz (upz (Ct.po N) i (if (1 - (x : Int)) = 0 then Ct.po N i else Ct.po N j)) j (if ((y : Int)) = 0 then Ct.po N j else Ct.po N i))) (if (1 - (x : Int)) = 0 then Ct.po N i else Ct.po N j) = twu N i j (2 * (1 - (x : Int)) + ((y : Int))) from lv_u (ch := 1 - (x : Int)) (co := (y : Int)) (by omega) (by omega)]
                    have b136 := twu_b hN i j (2 * (1 - (x : Int)) + ((y : Int)))
                    have LP73 : ∀ (s0_73 : Int), (s0_73 = (if twu N i j (2 * (x : Int) + (y : Int)) ≤ twu N i j (2 * (1 - (x : Int)) + (y : Int)) then 1 else 0)) → Wx X 0 0 (WX X.γ b F N Mb135 P hp sd) 73 [(4, .int (iN ((y : Int)))), (3, .int (iN ((x : Int)))), (0, .ref (b 0)), (1, .int (iN (i))), (2, .int (iN (j)))] [.int (iN (s0_73))] := by
                      intro s0_73 es0_73
                      refine x_istore C [(5, .int (iN (s0_73))), (4, .int (iN ((y : Int)))), (3, .int (iN ((x : Int)))), (0, .ref (b 0)), (1, .int (iN (i))), (2, .int (iN (j)))] (by decide) rfl dX11_two_73 ?_
                      refine x_aload_n C 3 rfl rfl dX11_two_75 ?_
                      refine x_iload_n C 5 rfl rfl dX11_two_76 ?_
                      refine x_iload_n C 4 rfl rfl dX11_two_77 ?_
                      refine x_iload C 1 rfl dX11_two_78 ?_
                      refine x_iload_n C 2 rfl rfl dX11_two_80 ?_
                      refine x_V_I C (As := [.int (iN (j)), .int (iN (i)), .int (iN ((y : Int))), .int (iN ((x : Int)))]) (rest := []) 4 0 rfl rfl gX11_two_X11_levelUnder rfl (c_X11_levelUnder _ _ b F N Mb135 P hp sd hN hF (j) (i) ((y : Int)) ((x : Int)) (by omega) (by omega) (by omega) (by omega) (by omega)) rfl ok_X11_levelUnder rfl rfl rfl rfl dX11_two_81 (fun r w1 hp => ?_)
                      obtain ⟨rfl, Mb137, rfl⟩ := hp
                      show Wx X 0 0 (WX X.γ b F N Mb137 P hp sd) 84 [(5, .int (iN (s0_73))), (4, .int (iN ((y : Int)))), (3, .int (iN ((x : Int)))), (0, .ref (b 0)), (1, .int (iN (i))), (2, .int (iN (j)))] [.int (iN (Ct.g (Ct.set_po N (upz (upz (Ct.po N) j (if ((y : Int)) = 0 then Ct.po N j else Ct.po N i)) i (if ((x : Int)) = 0 then Ct.po N i else Ct.po N j))) (if ((y : Int)) = 0 then Ct.po N j else Ct.po N i)))]
                      rw [show Ct.g (Ct.set_po N (upz (upz (Ct.po N) j (if ((y : Int)) = 0 then Ct.po N j else Ct.po N i)) i (if ((x : Int)) = 0 then Ct.po N i else Ct.po N j))) (if ((y : Int)) = 0 then Ct.po N j else Ct.po N i) = twv N i j (2 * ((x : Int)) + ((y : Int))) from lv_v c_24 (ch := (x : Int)) (co := (y : Int)) (by omega) (by omega)]
                      have b138 := twv_b hN i j (2 * ((x : Int)) + ((y : Int)))
                      refine x_aload_n C 3 rfl rfl dX11_two_84 ?_
                      refine x_iload_n C 5 rfl rfl dX11_two_85 ?_
                      refine x_iload_n C 4 rfl rfl dX11_two_86 ?_
                      refine x_iconst (v := 0) C dX11_two_87 ?_
                      refine x_iload C 1 rfl dX11_two_88 ?_
                      refine x_isub C dX11_two_90 ?_
                      refine x_iload_n C 2 rfl rfl dX11_two_91 ?_
                      refine x_V_I C (As := [.int (iN (j)), .int (iN (i)), .int (iN (1 - (y : Int))), .int (iN ((x : Int)))]) (rest := [.int (iN (twv N i j (2 * ((x : Int)) + ((y : Int)))))]) 4 0 rfl rfl gX11_two_X11_levelUnder rfl (c_X11_levelUnder _ _ b F N Mb137 P hp sd hN hF (j) (i) (1 - (y : Int)) ((x : Int)) (by omega) (by omega) (by omega) (by omega) (by omega)) rfl ok_X11_levelUnder rfl rfl rfl rfl dX11_two_92 (fun r w1 hp => ?_)
                      obtain ⟨rfl, Mb139, rfl⟩ := hp
                      show Wx X 0 0 (WX X.γ b F N Mb139 P hp sd) 95 [(5, .int (iN (s0_73))), (4, .int (iN ((y : Int)))), (3, .int (iN ((x : Int)))), (0, .ref (b 0)), (1, .int (iN (i))), (2, .int (iN (j)))] [.int (iN (Ct.g (Ct.set_po N (upz (upz (Ct.po N) j (if (1 - (y : Int)) = 0 then Ct.po N j else Ct.po N i)) i (if ((x : Int)) = 0 then Ct.po N i else Ct.po N j))) (if (1 - (y : Int)) = 0 then Ct.po N j else Ct.po N i))), .int (iN (twv N i j (2 * ((x : Int)) + ((y : Int)))))]
                      rw [show Ct.g (Ct.set_po N (upz (upz (Ct.po N) j (if (1 - (y : Int)) = 0 then Ct.po N j else Ct.po N i)) i (if ((x : Int)) = 0 then Ct.po N i else Ct.po N j))) (if (1 - (y : Int)) = 0 then Ct.po N j else Ct.po N i) = twv N i j (2 * ((x : Int)) + (1 - (y : Int))) from lv_v c_24 (ch := (x : Int)) (co := 1 - (y : Int)) (by omega) (by omega)]
                      have b140 := twv_b hN i j (2 * ((x : Int)) + (1 - (y : Int)))
                      have LP103 : ∀ (s0_103 : Int), (s0_103 = (if twv N i j (2 * (x : Int) + (y : Int)) ≤ twv N i j (2 * (x : Int) + (1 - (y : Int))) then 1 else 0)) → Wx X 0 0 (WX X.γ b F N Mb139 P hp sd) 103 [(5, .int (iN (s0_73))), (4, .int (iN ((y : Int)))), (3, .int (iN ((x : Int)))), (0, .ref (b 0)), (1, .int (iN (i))), (2, .int (iN (j)))] [.int (iN (s0_103))] := by
                        intro s0_103 es0_103
                        refine x_istore C [(6, .int (iN (s0_103))), (5, .int (iN (s0_73))), (4, .int (iN ((y : Int)))), (3, .int (iN ((x : Int)))), (0, .ref (b 0)), (1, .int (iN (i))), (2, .int (iN (j)))] (by decide) rfl dX11_two_103 ?_
                        refine x_iload C 1 rfl dX11_two_105 ?_
                        refine x_if_eq C 123 (by decide) (by omega) dX11_two_107 (fun c_107 => ?_) (fun c_107 => ?_)
                        · refine x_iinc C 2 [(4, .int (iN ((y : Int) + 1))), (6, .int (iN (s0_103))), (5, .int (iN (s0_73))), (3, .int (iN ((x : Int)))), (0, .ref (b 0)), (1, .int (iN (i))), (2, .int (iN (j)))] rfl rfl (by decide) rfl dX11_two_123 ?_
                          refine x_goto C 39 (by decide) dX11_two_126 ?_
                          refine Wx.subL [0, 3, 4, 5, 6] rfl ?_
                          exact ih39 (y + 1) (Mb139) _ (by omega) (by omega) (fstz_p hf3 ((twf_e (x := x) (y := y) (by omega) (by omega)).trans (if_neg (by omega)))) (by omega)
                        · refine x_iload C 0 rfl dX11_two_110 ?_
                          refine x_if_eq C 123 (by decide) (by omega) dX11_two_112 (fun c_112 => ?_) (fun c_112 => ?_)
                          · refine x_iinc C 2 [(4, .int (iN ((y : Int) + 1))), (6, .int (iN (s0_103))), (5, .int (iN (s0_73))), (3, .int (iN ((x : Int)))), (0, .ref (b 0)), (1, .int (iN (i))), (2, .int (iN (j)))] rfl rfl (by decide) rfl dX11_two_123 ?_
                            refine x_goto C 39 (by decide) dX11_two_126 ?_
                            refine Wx.subL [0, 3, 4, 5, 6] rfl ?_
                            exact ih39 (y + 1) (Mb139) _ (by omega) (by omega) (fstz_p hf3 ((twf_e (x := x) (y := y) (by omega) (by omega)).trans (if_neg (by omega)))) (by omega)
                          · refine x_bipush C (10) (by decide) dX11_two_115 ?_
                            refine x_iload_n C 3 rfl rfl dX11_two_117 ?_
                            refine x_imul C dX11_two_118 ?_
                            refine x_iload C 2 rfl dX11_two_119 ?_
                            refine x_iadd C dX11_two_121 ?_
                            exact hret _ _ _ _ dX11_two_122 rfl ⟨(by have e1 := fstz_f hf3 ((twf_e (x := x) (y := y) (by omega) (by omega)).trans (if_pos (by omega))); unfold q_two; rw [if_pos (show q_one N i ∧ q_one N j ∧ i ≠ j from ⟨(show 0 ≤ i ∧ i ≤ Ct.n N - 1 by omega), (show 0 ≤ j ∧ j ≤ Ct.n N - 1 by omega), c_24⟩), fstz_end (twf N i j) (k := 2 * x + y + 1) (by omega) (Or.inr (by rw [e1]; omega)), e1, if_neg (by omega)]; omega), ⟨(Ct.wa N), (Ct.wa P), _, _, rfl⟩⟩
                      refine x_icmp_gt C 102 (by decide) (by omega) dX11_two_95 (fun c_95 => ?_) (fun c_95 => ?_)
                      · refine x_iconst (v := 0) C dX11_two_102 ?_
                        exact LP103 _ (by omega)
                      · refine x_iconst (v := 0) C dX11_two_98 ?_
                        refine x_goto C 103 (by decide) dX11_two_99 ?_
                        exact LP103 _ (by omega)
                    refine x_icmp_gt C 72 (by decide) (by omega) dX11_two_65 (fun c_65 => ?_) (fun c_65 => ?_)
                    · refine x_iconst (v := 0) C dX11_two_72 ?_
                      exact LP73 _ (by omega)
                    · refine x_iconst (v := 0) C dX11_two_68 ?_
                      refine x_goto C 73 (by decide) dX11_two_69 ?_
                      exact LP73 _ (by omega)
              exact LP39 ((2 - (0)) + 1) (0) (M1) _ (by omega) (by omega) (hf) (by omega)
        exact LP31 ((2 - (0)) + 1) (0) (M) _ (by omega) (by omega) (rfl) (by omega)
      · refine x_iconst (v := 0) C dX11_two_27 ?_
        exact hret _ _ _ _ dX11_two_28 rfl ⟨(by unfold q_two; rw [if_neg (show ¬ (q_one N i ∧ q_one N j ∧ i ≠ j) from (show ¬ ((0 ≤ i ∧ i ≤ Ct.n N - 1) ∧ (0 ≤ j ∧ j ≤ Ct.n N - 1) ∧ i ≠ j) by omega))]), ⟨(Ct.wa N), (Ct.wa P), _, _, rfl⟩⟩
end HXFac
