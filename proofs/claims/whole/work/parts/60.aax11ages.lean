section HXFaa
theorem upz_comm {f : Int → Int} {i j p q : Int} (h : i ≠ j) : upz (upz f i p) j q = upz (upz f j q) i p := by
  funext t
  by_cases h1 : t = j
  · subst h1
    rw [upz_s, upz_n (fun z => h z.symm), upz_s]
  · rw [upz_n h1]
    by_cases h2 : t = i
    · subst h2
      rw [upz_s, upz_s]
    · rw [upz_n h2, upz_n h2, upz_n h1]
theorem lv_u {C : Ct} {i j ch co : Int} (h1 : 0 ≤ ch ∧ ch ≤ 1) (h2 : 0 ≤ co ∧ co ≤ 1) : Ct.g (Ct.set_po C (upz (upz (Ct.po C) i (if ch = 0 then Ct.po C i else Ct.po C j)) j (if co = 0 then Ct.po C j else Ct.po C i))) (if ch = 0 then Ct.po C i else Ct.po C j) = twu C i j (2 * ch + co) := by
  unfold twu twC
  have e1 : tpa C i j (2 * ch + co) = if ch = 0 then Ct.po C i else Ct.po C j := by unfold tpa; omega
  have e2 : tpb C i j (2 * ch + co) = if co = 0 then Ct.po C j else Ct.po C i := by unfold tpb; omega
  rw [e1, e2]
theorem lv_v {C : Ct} {i j ch co : Int} (h : i ≠ j) (h1 : 0 ≤ ch ∧ ch ≤ 1) (h2 : 0 ≤ co ∧ co ≤ 1) : Ct.g (Ct.set_po C (upz (upz (Ct.po C) j (if co = 0 then Ct.po C j else Ct.po C i)) i (if ch = 0 then Ct.po C i else Ct.po C j))) (if co = 0 then Ct.po C j else Ct.po C i) = twv C i j (2 * ch + co) := by
  unfold twv twC
  have e1 : tpa C i j (2 * ch + co) = if ch = 0 then Ct.po C i else Ct.po C j := by unfold tpa; omega
  have e2 : tpb C i j (2 * ch + co) = if co = 0 then Ct.po C j else Ct.po C i := by unfold tpb; omega
  rw [e1, e2, upz_comm h]
theorem twf_e {C : Ct} {i j : Int} {x y : Nat} (hx : x < 2) (hy : y < 2) : twf C i j (2 * x + y) = if twu C i j (2 * (x : Int) + (y : Int)) ≤ twu C i j (2 * (1 - (x : Int)) + (y : Int)) ∧ twv C i j (2 * (x : Int) + (y : Int)) ≤ twv C i j (2 * (x : Int) + (1 - (y : Int))) then 0 else 1 := by
  unfold twf
  rw [show (2 * (1 - ((2 * x + y : Nat) : Int) / 2) + ((2 * x + y : Nat) : Int) % 2) = 2 * (1 - (x : Int)) + (y : Int) by omega, show (2 * (((2 * x + y : Nat) : Int) / 2) + 1 - ((2 * x + y : Nat) : Int) % 2) = 2 * (x : Int) + (1 - (y : Int)) by omega, show ((2 * x + y : Nat) : Int) = 2 * (x : Int) + (y : Int) by omega]
theorem in_X11_ages_X1 : ∀ w ∈ u_ws RX1 TX1 13, w ∈ wsX11_ages := by decide +kernel
theorem in_X11_ages_X11 : ∀ w ∈ u_ws RX11 TX11 6, w ∈ wsX11_ages := by decide +kernel
theorem ok_X11_ages : okY yX11_ages 3 := by decide +kernel
def rmX11_ages : Room := { frames := 5, cells := 0, slots := 0, locals := 134 }
set_option maxRecDepth 100000 in
set_option maxHeartbeats 400000 in
theorem c_X11_ages (l : Launch) (γ : GX) (b : Nat → Nat) (F : Nat → Sh) (N M P : Ct) (hp sd : Int) (hN : WFc N) (hF : ∀ t : Nat, t < 8 → WFs (F t)) (d : Int) (i : Int) (w : Int) (h0_ : -2147483648 ≤ d ∧ d < 2147483648) (h1_ : -2147483648 ≤ i ∧ i < 2147483648) (h2_ : -2147483648 ≤ w ∧ w < 2147483648) : MI l γ yX11_ages wsX11_ages rmX11_ages [.ref (b 0), .int (iN (d)), .int (iN (i)), .int (iN (w))] (WX γ b F N M P hp sd) (fun r_ w_ => r_ = q_ages d (Sh.hd (F d.toNat)) (Sh.so (F d.toNat)) (Sh.sz (F d.toNat)) (Sh.va (F d.toNat)) N i w ∧ Wc γ b F N P hp w_) 0 0 := by
  refine MI.of (cc := cX11_ages) (maxL := 10) (rt := .int) RX11 rfl (by decide +kernel) rfl (Nat.le_of_ble_eq_true rfl) ?_
  intro X C hγ hl hnm hret
  subst hγ
  have hNn := WFc.n hN
  show Wx X 0 0 (WX X.γ b F N M P hp sd) 0 [(0, .ref (b 0)), (1, .int (iN (d))), (2, .int (iN (i))), (3, .int (iN (w)))] []
  refine x_aload_n C 0 rfl rfl dX11_ages_0 ?_
  refine x_get C in_X11_ages_X11 0 rfl rfl 1 (by decide) (List.mem_of_getElem? (i := 1) rfl) rfl (v := .ref (b 27)) rfl dX11_ages_1 ?_
  refine x_iload_n C 2 rfl rfl dX11_ages_4 ?_
  refine x_V_I C (As := [.int (iN (i))]) (rest := []) 1 27 rfl rfl gX11_ages_X1_has rfl (MI.fN b F N M P hp sd (fun r Z => r = (bz (0 ≤ i ∧ i ≤ Ct.n N - 1)) ∧ N = Z) (c_X1_has _ _ (adN b) N hN (i) (by omega)) (fun r w h => ⟨_, ⟨h.1, rfl⟩, h.2⟩)) rfl ok_X1_has rfl rfl rfl rfl dX11_ages_5 (fun r w1 hp => ?_)
  obtain ⟨_, ⟨rfl, rfl⟩, rfl⟩ := hp
  show Wx X 0 0 (WX X.γ b F N M P hp sd) 8 [(0, .ref (b 0)), (1, .int (iN (d))), (2, .int (iN (i))), (3, .int (iN (w)))] [.int (iN (bz (0 ≤ i ∧ i ≤ Ct.n N - 1)))]
  have LP25 : ∀ (s0_25 : Int), (s0_25 = (if (0 ≤ i ∧ i ≤ Ct.n N - 1) ∧ 0 ≤ w ∧ w ≤ 2 then 1 else 0)) → Wx X 0 0 (WX X.γ b F N M P hp sd) 25 [(0, .ref (b 0)), (1, .int (iN (d))), (2, .int (iN (i))), (3, .int (iN (w)))] [.int (iN (s0_25))] := by
    intro s0_25 es0_25
    refine x_istore C [(4, .int (iN (s0_25))), (0, .ref (b 0)), (1, .int (iN (d))), (2, .int (iN (i))), (3, .int (iN (w)))] (by decide) rfl dX11_ages_25 ?_
    refine x_iload C 0 rfl dX11_ages_27 ?_
    have LP41 : ∀ (s0_41 : Int), (s0_41 = (if (0 ≤ i ∧ i ≤ Ct.n N - 1) ∧ 0 ≤ w ∧ w ≤ 2 then (if 0 ≤ d ∧ d ≤ 7 then (if Sh.hd (F d.toNat) = 0 then -11 else if Sh.hd (F d.toNat) = 2 then 0 else -12) else -1) else -1)) → Wx X 0 0 (WX X.γ b F N M P hp sd) 41 [(4, .int (iN (s0_25))), (0, .ref (b 0)), (1, .int (iN (d))), (2, .int (iN (i))), (3, .int (iN (w)))] [.int (iN (s0_41))] := by
      intro s0_41 es0_41
      refine x_istore C [(5, .int (iN (s0_41))), (4, .int (iN (s0_25))), (0, .ref (b 0)), (1, .int (iN (d))), (2, .int (iN (i))), (3, .int (iN (w)))] (by decide) rfl dX11_ages_41 ?_
      refine x_iload C 0 rfl dX11_ages_43 ?_
      refine x_if_ge C 51 (by decide) (by omega) dX11_ages_45 (fun c_45 => ?_) (fun c_45 => ?_)
      · refine x_iconst (v := 0) C dX11_ages_51 ?_
        refine x_istore C [(6, .int (iN (0))), (5, .int (iN (s0_41))), (4, .int (iN (s0_25))), (0, .ref (b 0)), (1, .int (iN (d))), (2, .int (iN (i))), (3, .int (iN (w)))] (by decide) rfl dX11_ages_52 ?_
        refine x_bipush C (-4) (by decide) dX11_ages_54 ?_
        refine x_istore C [(7, .int (iN (-4))), (6, .int (iN (0))), (5, .int (iN (s0_41))), (4, .int (iN (s0_25))), (0, .ref (b 0)), (1, .int (iN (d))), (2, .int (iN (i))), (3, .int (iN (w)))] (by decide) rfl dX11_ages_56 ?_
        refine x_bipush C (-4) (by decide) dX11_ages_58 ?_
        refine x_istore C [(8, .int (iN (-4))), (7, .int (iN (-4))), (6, .int (iN (0))), (5, .int (iN (s0_41))), (4, .int (iN (s0_25))), (0, .ref (b 0)), (1, .int (iN (d))), (2, .int (iN (i))), (3, .int (iN (w)))] (by decide) rfl dX11_ages_60 ?_
        refine x_iconst (v := 0) C dX11_ages_62 ?_
        refine x_istore C [(9, .int (iN (0))), (8, .int (iN (-4))), (7, .int (iN (-4))), (6, .int (iN (0))), (5, .int (iN (s0_41))), (4, .int (iN (s0_25))), (0, .ref (b 0)), (1, .int (iN (d))), (2, .int (iN (i))), (3, .int (iN (w)))] (by decide) rfl dX11_ages_63 ?_
        have LP65 : ∀ (f : Nat) (k : Nat) (M1 : Ct) (v9_65 : Int) (v8_65 : Int) (v7_65 : Int) (v6_65 : Int), (121 - k < f) → (k ≤ 121) → (((k : Int)) = v9_65) → (v8_65 = (agg N (Sh.so (F d.toNat)) i (Sh.va (F d.toNat)) (Sh.sz (F d.toNat)).toNat k)) → (v7_65 = (agl N (Sh.so (F d.toNat)) i (Sh.va (F d.toNat)) (Sh.sz (F d.toNat)).toNat k)) → (v6_65 = (agn N (Sh.so (F d.toNat)) i (Sh.va (F d.toNat)) (Sh.sz (F d.toNat)).toNat k)) → Wx X 0 0 (WX X.γ b F N M1 P hp sd) 65 [(9, .int (iN (v9_65))), (8, .int (iN (v8_65))), (7, .int (iN (v7_65))), (6, .int (iN (v6_65))), (5, .int (iN (s0_41))), (4, .int (iN (s0_25))), (0, .ref (b 0)), (1, .int (iN (d))), (2, .int (iN (i))), (3, .int (iN (w)))] [] := by
          intro f
          induction f with
          | zero => intro k M1 v9_65 v8_65 v7_65 v6_65 hf; exact absurd hf (Nat.not_lt_zero _)
          | succ f ih65 =>
            intro k M1 v9_65 v8_65 v7_65 v6_65 hf hk e9_65 e8_65 e7_65 e6_65
            subst e9_65
            have bl := agl_b N (Sh.so (F d.toNat)) i (Sh.va (F d.toNat)) (Sh.sz (F d.toNat)).toNat k
            refine x_iload C 0 rfl dX11_ages_65 ?_
            refine x_bipush C (120) (by decide) dX11_ages_67 ?_
            refine x_icmp_gt C 130 (by decide) (by omega) dX11_ages_69 (fun c_69 => ?_) (fun c_69 => ?_)
            · refine x_iload_n C 9 rfl rfl dX11_ages_130 ?_
              refine x_if_ne C 137 (by decide) (by omega) dX11_ages_131 (fun c_131 => ?_) (fun c_131 => ?_)
              · refine x_iload_n C 9 rfl rfl dX11_ages_137 ?_
                refine x_iconst (v := 0) C dX11_ages_138 ?_
                refine x_icmp_ne C 147 (by decide) (by omega) dX11_ages_139 (fun c_139 => ?_) (fun c_139 => ?_)
                · refine x_iload C 1 rfl dX11_ages_147 ?_
                  exact hret _ _ _ _ dX11_ages_149 rfl ⟨(by have hz9 : k = 121 := (by omega); subst hz9; unfold q_ages; rw [if_pos (show q_one N i ∧ 0 ≤ w ∧ w ≤ 2 from (show (0 ≤ i ∧ i ≤ Ct.n N - 1) ∧ 0 ≤ w ∧ w ≤ 2 by omega))]; unfold q_wr; rw [if_pos (show 0 ≤ d ∧ d ≤ 7 by omega), if_neg (show ¬ Sh.hd (F d.toNat) = 0 by omega), if_pos (show Sh.hd (F d.toNat) = 2 by omega)]; rw [if_neg (show ¬ w = 0 by omega), if_neg (show ¬ w = 1 by omega)]; exact e8_65), ⟨(Ct.wa N), (Ct.wa P), _, _, rfl⟩⟩
                · refine x_iload C 2 rfl dX11_ages_142 ?_
                  refine x_goto C 149 (by decide) dX11_ages_144 ?_
                  exact hret _ _ _ _ dX11_ages_149 rfl ⟨(by have hz9 : k = 121 := (by omega); subst hz9; unfold q_ages; rw [if_pos (show q_one N i ∧ 0 ≤ w ∧ w ≤ 2 from (show (0 ≤ i ∧ i ≤ Ct.n N - 1) ∧ 0 ≤ w ∧ w ≤ 2 by omega))]; unfold q_wr; rw [if_pos (show 0 ≤ d ∧ d ≤ 7 by omega), if_neg (show ¬ Sh.hd (F d.toNat) = 0 by omega), if_pos (show Sh.hd (F d.toNat) = 2 by omega)]; rw [if_neg (show ¬ w = 0 by omega), if_pos (show w = 1 by omega)]; exact e7_65), ⟨(Ct.wa N), (Ct.wa P), _, _, rfl⟩⟩
              · refine x_iload C 3 rfl dX11_ages_134 ?_
                exact hret _ _ _ _ dX11_ages_136 rfl ⟨(by have hz9 : k = 121 := (by omega); subst hz9; unfold q_ages; rw [if_pos (show q_one N i ∧ 0 ≤ w ∧ w ≤ 2 from (show (0 ≤ i ∧ i ≤ Ct.n N - 1) ∧ 0 ≤ w ∧ w ≤ 2 by omega))]; unfold q_wr; rw [if_pos (show 0 ≤ d ∧ d ≤ 7 by omega), if_neg (show ¬ Sh.hd (F d.toNat) = 0 by omega), if_pos (show Sh.hd (F d.toNat) = 2 by omega)]; rw [if_pos (show w = 0 by omega)]; exact e6_65), ⟨(Ct.wa N), (Ct.wa P), _, _, rfl⟩⟩
            · refine x_aload_n C 6 rfl rfl dX11_ages_72 ?_
              refine x_iload_n C 7 rfl rfl dX11_ages_73 ?_
              refine x_iload_n C 8 rfl rfl dX11_ages_74 ?_
              refine x_aload_n C 6 rfl rfl dX11_ages_75 ?_
              refine x_get C in_X11_ages_X11 0 rfl rfl 1 (by decide) (List.mem_of_getElem? (i := 1) rfl) rfl (v := .ref (b 27)) rfl dX11_ages_76 ?_
              refine x_get C in_X11_ages_X1 27 rfl rfl 4 (by decide) (List.mem_of_getElem? (i := 2) rfl) rfl (v := .ref (b 29)) rfl dX11_ages_79 ?_
              refine x_iload_n C 8 rfl rfl dX11_ages_82 ?_
              refine x_iaload C (f := Ct.kd N) 29 rfl (by omega) rfl dX11_ages_83 ?_
              have b126 := WFc.kd hN (i)
              refine x_aload_n C 6 rfl rfl dX11_ages_84 ?_
              refine x_get C in_X11_ages_X11 0 rfl rfl 1 (by decide) (List.mem_of_getElem? (i := 1) rfl) rfl (v := .ref (b 27)) rfl dX11_ages_85 ?_
              refine x_get C in_X11_ages_X1 27 rfl rfl 5 (by decide) (List.mem_of_getElem? (i := 3) rfl) rfl (v := .ref (b 30)) rfl dX11_ages_88 ?_
              refine x_iload_n C 8 rfl rfl dX11_ages_91 ?_
              refine x_iaload C (f := Ct.fg N) 30 rfl (by omega) rfl dX11_ages_92 ?_
              have b127 := WFc.fg hN (i)
              refine x_iload C 0 rfl dX11_ages_93 ?_
              refine x_V_I C (As := [.int (iN (d)), .int (iN (i)), .int (iN (Ct.kd N i)), .int (iN (Ct.fg N i)), .int (iN ((k : Int)))]) (rest := []) 5 0 rfl rfl gX11_ages_X11_isAsToldBy rfl (c_X11_isAsToldBy _ _ b F N M1 P hp sd hN hF (d) (i) (Ct.kd N i) (Ct.fg N i) ((k : Int)) (by omega) (by omega) (by omega) (by omega) (by omega)) rfl ok_X11_isAsToldBy rfl rfl rfl rfl dX11_ages_95 (fun r w1 hp => ?_)
              obtain ⟨rfl, Mb128, rfl⟩ := hp
              show Wx X 0 0 (WX X.γ b F N Mb128 P hp sd) 98 [(9, .int (iN ((k : Int)))), (8, .int (iN (v8_65))), (7, .int (iN (v7_65))), (6, .int (iN (v6_65))), (5, .int (iN (s0_41))), (4, .int (iN (s0_25))), (0, .ref (b 0)), (1, .int (iN (d))), (2, .int (iN (i))), (3, .int (iN (w)))] [.int (iN (rok (Ct.nat N i (Ct.kd N i) (Ct.fg N i) ((k : Int))) (Sh.so (F d.toNat)) i (Sh.va (F d.toNat)) (Sh.sz (F d.toNat)).toNat))]
              obtain ⟨rr, hrr⟩ : ∃ rr : Int, rok (Ct.nat N i (Ct.kd N i) (Ct.fg N i) ((k : Int))) (Sh.so (F d.toNat)) i (Sh.va (F d.toNat)) (Sh.sz (F d.toNat)).toNat = rr := ⟨_, rfl⟩
              rw [hrr]
              have hr01 : rr = 0 ∨ rr = 1 := by rw [← hrr]; exact rok_01 _ _ _ _ _
              have hag : agis N (Sh.so (F d.toNat)) i (Sh.va (F d.toNat)) (Sh.sz (F d.toNat)).toNat k = rr := hrr
              refine x_if_eq C 124 (by decide) (by omega) dX11_ages_98 (fun c_98 => ?_) (fun c_98 => ?_)
              · refine x_iinc C 0 [(9, .int (iN ((k : Int) + 1))), (8, .int (iN (v8_65))), (7, .int (iN (v7_65))), (6, .int (iN (v6_65))), (5, .int (iN (s0_41))), (4, .int (iN (s0_25))), (0, .ref (b 0)), (1, .int (iN (d))), (2, .int (iN (i))), (3, .int (iN (w)))] rfl rfl (by decide) rfl dX11_ages_124 ?_
                refine x_goto C 65 (by decide) dX11_ages_127 ?_
                exact ih65 (k + 1) (Mb128) _ _ _ _ (by omega) (by omega) (by omega) (by simp only [agg]; rw [hag, ← e8_65]; rw [if_neg (fun z => z (by omega))]) (by simp only [agl]; rw [hag, ← e7_65]; rw [if_neg (fun z => z.1 (by omega))]) (by simp only [agn]; rw [hag, ← e6_65]; omega)
              · refine x_iinc C 3 [(6, .int (iN (v6_65 + 1))), (9, .int (iN ((k : Int)))), (8, .int (iN (v8_65))), (7, .int (iN (v7_65))), (5, .int (iN (s0_41))), (4, .int (iN (s0_25))), (0, .ref (b 0)), (1, .int (iN (d))), (2, .int (iN (i))), (3, .int (iN (w)))] rfl rfl (by decide) rfl dX11_ages_101 ?_
                refine x_iload C 3 rfl dX11_ages_104 ?_
                refine x_bipush C (-4) (by decide) dX11_ages_106 ?_
                have LP118 : ∀ (s0_118 : Int), (s0_118 = (if v7_65 = -4 then (k : Int) else v7_65)) → Wx X 0 0 (WX X.γ b F N Mb128 P hp sd) 118 [(6, .int (iN (v6_65 + 1))), (9, .int (iN ((k : Int)))), (8, .int (iN (v8_65))), (7, .int (iN (v7_65))), (5, .int (iN (s0_41))), (4, .int (iN (s0_25))), (0, .ref (b 0)), (1, .int (iN (d))), (2, .int (iN (i))), (3, .int (iN (w)))] [.int (iN (s0_118))] := by
                  intro s0_118 es0_118
                  refine x_istore C [(7, .int (iN (s0_118))), (6, .int (iN (v6_65 + 1))), (9, .int (iN ((k : Int)))), (8, .int (iN (v8_65))), (5, .int (iN (s0_41))), (4, .int (iN (s0_25))), (0, .ref (b 0)), (1, .int (iN (d))), (2, .int (iN (i))), (3, .int (iN (w)))] (by decide) rfl dX11_ages_118 ?_
                  refine x_iload C 2 rfl dX11_ages_120 ?_
                  refine x_istore C [(8, .int (iN ((k : Int)))), (7, .int (iN (s0_118))), (6, .int (iN (v6_65 + 1))), (9, .int (iN ((k : Int)))), (5, .int (iN (s0_41))), (4, .int (iN (s0_25))), (0, .ref (b 0)), (1, .int (iN (d))), (2, .int (iN (i))), (3, .int (iN (w)))] (by decide) rfl dX11_ages_122 ?_
                  refine x_iinc C 3 [(9, .int (iN ((k : Int) + 1))), (8, .int (iN ((k : Int)))), (7, .int (iN (s0_118))), (6, .int (iN (v6_65 + 1))), (5, .int (iN (s0_41))), (4, .int (iN (s0_25))), (0, .ref (b 0)), (1, .int (iN (d))), (2, .int (iN (i))), (3, .int (iN (w)))] rfl rfl (by decide) rfl dX11_ages_124 ?_
                  refine x_goto C 65 (by decide) dX11_ages_127 ?_
                  exact ih65 (k + 1) (Mb128) _ _ _ _ (by omega) (by omega) (by omega) (by simp only [agg]; rw [hag, ← e8_65]; rw [if_pos (by omega)]) (by simp only [agl]; rw [hag, ← e7_65]; rw [es0_118]; by_cases q : v7_65 < 0; (rw [if_pos (by omega), if_pos ⟨by omega, q⟩]); (rw [if_neg (by omega), if_neg (fun z => q z.2)])) (by simp only [agn]; rw [hag, ← e6_65]; omega)
                refine x_icmp_ne C 116 (by decide) (by omega) dX11_ages_108 (fun c_108 => ?_) (fun c_108 => ?_)
                · refine x_iload C 3 rfl dX11_ages_116 ?_
                  exact LP118 _ (by omega)
                · refine x_iload C 1 rfl dX11_ages_111 ?_
                  refine x_goto C 118 (by decide) dX11_ages_113 ?_
                  exact LP118 _ (by omega)
        exact LP65 ((121 - (0)) + 1) (0) (M) _ _ _ _ (by omega) (by omega) (by omega) (rfl) (rfl) (rfl)
      · refine x_iload C 0 rfl dX11_ages_48 ?_
        exact hret _ _ _ _ dX11_ages_50 rfl ⟨(by by_cases hq : (0 ≤ i ∧ i ≤ Ct.n N - 1) ∧ 0 ≤ w ∧ w ≤ 2; (unfold q_ages; rw [if_pos (show q_one N i ∧ 0 ≤ w ∧ w ≤ 2 from hq)]; unfold q_wr; omega); (unfold q_ages; rw [if_neg (show ¬ (q_one N i ∧ 0 ≤ w ∧ w ≤ 2) from hq)]; omega)), ⟨(Ct.wa N), (Ct.wa P), _, _, rfl⟩⟩
    refine x_if_eq C 40 (by decide) (by omega) dX11_ages_29 (fun c_29 => ?_) (fun c_29 => ?_)
    · refine x_iconst (v := 0) C dX11_ages_40 ?_
      exact LP41 _ (by omega)
    · refine x_aload_n C 1 rfl rfl dX11_ages_32 ?_
      refine x_iload_n C 2 rfl rfl dX11_ages_33 ?_
      refine x_V_I C (As := [.int (iN (d))]) (rest := []) 1 0 rfl rfl gX11_ages_X11_rowRefusal rfl (c_X11_rowRefusal _ _ b F N M P hp sd hN hF (d) (by omega)) rfl ok_X11_rowRefusal rfl rfl rfl rfl dX11_ages_34 (fun r w1 hp => ?_)
      obtain ⟨rfl, rfl⟩ := hp
      show Wx X 0 0 (WX X.γ b F N M P hp sd) 37 [(4, .int (iN (s0_25))), (0, .ref (b 0)), (1, .int (iN (d))), (2, .int (iN (i))), (3, .int (iN (w)))] [.int (iN (if 0 ≤ d ∧ d ≤ 7 then (if Sh.hd (F d.toNat) = 0 then -11 else if Sh.hd (F d.toNat) = 2 then 0 else -12) else -1))]
      refine x_goto C 41 (by decide) dX11_ages_37 ?_
      exact LP41 _ (by omega)
  refine x_ifeq_bz C 24 (by decide) dX11_ages_8 (fun c_8 => ?_) (fun c_8 => ?_)
  · refine x_iconst (v := 0) C dX11_ages_24 ?_
    exact LP25 _ (by omega)
  · refine x_iload_n C 3 rfl rfl dX11_ages_11 ?_
    refine x_iconst (v := 0) C dX11_ages_12 ?_
    refine x_iconst (v := 0) C dX11_ages_13 ?_
    refine x_S_I C (As := [.int (iN (w)), .int (iN (0)), .int (iN (2))]) (rest := []) 3 gX11_ages_X11_isWithin (c_X11_isWithin _ _ (WX X.γ b F N M P hp sd) (w) (0) (2) (by omega) (by omega) (by omega)) rfl ok_X11_isWithin rfl rfl rfl rfl dX11_ages_14 (fun r w1 hp => ?_)
    obtain ⟨rfl, rfl⟩ := hp
    refine x_ifeq_bz C 24 (by decide) dX11_ages_17 (fun c_17 => ?_) (fun c_17 => ?_)
    · refine x_iconst (v := 0) C dX11_ages_24 ?_
      exact LP25 _ (by omega)
    · refine x_iconst (v := 0) C dX11_ages_20 ?_
      refine x_goto C 25 (by decide) dX11_ages_21 ?_
      exact LP25 _ (by omega)
end HXFaa
