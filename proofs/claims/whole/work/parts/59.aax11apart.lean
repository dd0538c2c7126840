section HXEaa
theorem apz_min (C : Ct) (i j : Int) : apz C i j = Ct.allW (Ct.set_po C (upz (upz (Ct.po C) i (min (Ct.po C i) (Ct.po C j))) j (min (Ct.po C i) (Ct.po C j)))) := by
  unfold apz
  rw [show (if Ct.po C i < Ct.po C j then Ct.po C i else Ct.po C j) = min (Ct.po C i) (Ct.po C j) by omega]
theorem psm_congr {po pr pr' sp : Int → Int} {c : Int} : ∀ k : Nat, (∀ i : Int, 0 ≤ i → i < (k : Int) → pr i = pr' i) → psm po pr sp c k = psm po pr' sp c k
  | 0, _ => rfl
  | k + 1, h => by
    simp only [psm]
    rw [psm_congr k (fun i h1 h2 => h i h1 (by omega))]
    unfold ones
    rw [h (k : Int) (by omega) (by omega)]
theorem keep_flip : ∀ n : Nat, n < 7 → ∀ k : Nat, k < 64 → k < 2 ^ n → ∀ i : Nat, i < n → ((2 ^ n - 1 - k) / 2 ^ i % 2 = 1 ↔ ¬ k / 2 ^ i % 2 = 1) := by decide +kernel
theorem btz_nat (k : Nat) (i : Int) : btz (k : Int) i ↔ k / 2 ^ i.toNat % 2 = 1 := by
  have hp : (2 : Int) ^ i.toNat = ((2 ^ i.toNat : Nat) : Int) := by norm_cast
  show (k : Int) / 2 ^ i.toNat % 2 = 1 ↔ _
  rw [hp]
  omega
theorem onp_awy {C : Ct} (hW : WFc C) {k : Nat} (hk : k < pw (Ct.n C)) : Ct.allW (Ct.set_pr C (onp (Ct.pr C) (k : Int) (Ct.n C).toNat)) = Ct.allW (awy C (((pw (Ct.n C) : Nat) : Int) - 1 - (k : Int))) := by
  have hn := hW.n
  have hpw := pw_b hn
  have e : Ct.g (Ct.set_pr C (onp (Ct.pr C) (k : Int) (Ct.n C).toNat)) = Ct.g (awy C (((pw (Ct.n C) : Nat) : Int) - 1 - (k : Int))) := by
    funext c
    have hp : psm (Ct.po C) (onp (Ct.pr C) (k : Int) (Ct.n C).toNat) (Ct.sp C) c (Ct.n C).toNat = psm (Ct.po C) (fun i => if btz (((pw (Ct.n C) : Nat) : Int) - 1 - (k : Int)) i then 0 else Ct.pr C i) (Ct.sp C) c (Ct.n C).toNat := by
      refine psm_congr _ (fun i h1 h2 => ?_)
      rw [onp_at]
      have hf := keep_flip (Ct.n C).toNat (by omega) k (by omega) hk i.toNat (by omega)
      have hb1 : btz (k : Int) i ↔ k / 2 ^ i.toNat % 2 = 1 := btz_nat k i
      have hb2 : btz (((pw (Ct.n C) : Nat) : Int) - 1 - (k : Int)) i ↔ (2 ^ (Ct.n C).toNat - 1 - k) / 2 ^ i.toNat % 2 = 1 := by
        have hk2 : k < 2 ^ (Ct.n C).toNat := hk
        have := btz_nat (2 ^ (Ct.n C).toNat - 1 - k) i
        rw [show ((pw (Ct.n C) : Nat) : Int) - 1 - (k : Int) = ((2 ^ (Ct.n C).toNat - 1 - k : Nat) : Int) by unfold pw; omega]
        exact this
      by_cases q : btz (k : Int) i
      · rw [if_neg (fun z => z.2.2 q)]
        show _ = if _ then _ else _
        rw [if_neg (fun z => (hf.mp (hb2.mp z)) (hb1.mp q))]
      · rw [if_pos ⟨h1, by omega, q⟩]
        show _ = if _ then _ else _
        rw [if_pos (hb2.mpr (hf.mpr (fun z => q (hb1.mpr z))))]
    show gnd _ _ _ _ _ c = gnd _ _ _ _ _ c
    unfold gnd
    rw [show psm (Ct.po (Ct.set_pr C (onp (Ct.pr C) (k : Int) (Ct.n C).toNat))) (Ct.pr (Ct.set_pr C (onp (Ct.pr C) (k : Int) (Ct.n C).toNat))) (Ct.sp (Ct.set_pr C (onp (Ct.pr C) (k : Int) (Ct.n C).toNat))) c (Ct.n (Ct.set_pr C (onp (Ct.pr C) (k : Int) (Ct.n C).toNat))).toNat = psm (Ct.po (awy C (((pw (Ct.n C) : Nat) : Int) - 1 - (k : Int)))) (Ct.pr (awy C (((pw (Ct.n C) : Nat) : Int) - 1 - (k : Int)))) (Ct.sp (awy C (((pw (Ct.n C) : Nat) : Int) - 1 - (k : Int)))) c (Ct.n (awy C (((pw (Ct.n C) : Nat) : Int) - 1 - (k : Int)))).toNat from hp]
    rfl
  show sumz (wat (Ct.g _)) 15 = sumz (wat (Ct.g _)) 15
  rw [e]
theorem awy_wf {C : Ct} (hW : WFc C) (al : Int) : WFc (awy C al) := hW.prs (fun i => by
  have := hW.pr i
  show 0 ≤ (if btz al i then 0 else Ct.pr C i) ∧ (if btz al i then 0 else Ct.pr C i) ≤ 16
  split <;> omega)
theorem in_X11_apart_X1 : ∀ w ∈ u_ws RX1 TX1 13, w ∈ wsX11_apart := by decide +kernel
theorem in_X11_apart_X11 : ∀ w ∈ u_ws RX11 TX11 6, w ∈ wsX11_apart := by decide +kernel
theorem ok_X11_apart : okY yX11_apart 1 := by decide +kernel
def rmX11_apart : Room := { frames := 4, cells := 0, slots := 0, locals := 128 }
set_option maxRecDepth 100000 in
set_option maxHeartbeats 400000 in
theorem c_X11_apart (l : Launch) (γ : GX) (b : Nat → Nat) (F : Nat → Sh) (N M P : Ct) (hp sd : Int) (hN : WFc N) (hF : ∀ t : Nat, t < 8 → WFs (F t)) (w : Int) (h0_ : -2147483648 ≤ w ∧ w < 2147483648) : MI l γ yX11_apart wsX11_apart rmX11_apart [.ref (b 0), .int (iN (w))] (WX γ b F N M P hp sd) (fun r_ w_ => r_ = q_apart N w ∧ Wc γ b F N P hp w_) 0 0 := by
  refine MI.of (cc := cX11_apart) (maxL := 7) (rt := .int) RX11 rfl (by decide +kernel) rfl (Nat.le_of_ble_eq_true rfl) ?_
  intro X C hγ hl hnm hret
  subst hγ
  have hNn := WFc.n hN
  show Wx X 0 0 (WX X.γ b F N M P hp sd) 0 [(0, .ref (b 0)), (1, .int (iN (w)))] []
  refine x_iload_n C 1 rfl rfl dX11_apart_0 ?_
  refine x_iconst (v := 0) C dX11_apart_1 ?_
  refine x_iconst (v := 0) C dX11_apart_2 ?_
  refine x_S_I C (As := [.int (iN (w)), .int (iN (0)), .int (iN (1))]) (rest := []) 3 gX11_apart_X11_isWithin (c_X11_isWithin _ _ (WX X.γ b F N M P hp sd) (w) (0) (1) (by omega) (by omega) (by omega)) rfl ok_X11_isWithin rfl rfl rfl rfl dX11_apart_3 (fun r w1 hp => ?_)
  obtain ⟨rfl, rfl⟩ := hp
  refine x_ifne_bz C 11 (by decide) dX11_apart_6 (fun c_6 => ?_) (fun c_6 => ?_)
  · refine x_aload_n C 0 rfl rfl dX11_apart_11 ?_
    refine x_get C in_X11_apart_X11 0 rfl rfl 1 (by decide) (List.mem_of_getElem? (i := 1) rfl) rfl (v := .ref (b 27)) rfl dX11_apart_12 ?_
    refine x_V_I C (As := []) (rest := []) 0 27 rfl rfl gX11_apart_X1_allWater rfl (MI.fN b F N M P hp sd (fun r Z => r = (Ct.allW N) ∧ (Ct.set_wa N (Ct.w N)) = Z) (c_X1_allWater _ _ (adN b) N hN) (fun r w h => ⟨_, ⟨h.1, rfl⟩, h.2⟩)) rfl ok_X1_allWater rfl rfl rfl rfl dX11_apart_15 (fun r w1 hp => ?_)
    obtain ⟨_, ⟨rfl, rfl⟩, rfl⟩ := hp
    show Wx X 0 0 (WX X.γ b F (Ct.set_wa N (Ct.w N)) M P hp sd) 18 [(0, .ref (b 0)), (1, .int (iN (w)))] [.int (iN (Ct.allW N))]
    show Wx X 0 0 (WX X.γ b F (Ct.set_wa N (Ct.w N)) M P hp sd) 18 [(0, .ref (b 0)), (1, .int (iN (w)))] [.int (iN (Ct.allW N))]
    have b118 := WFc.allW hN
    refine x_istore_n C [(2, .int (iN (Ct.allW N))), (0, .ref (b 0)), (1, .int (iN (w)))] rfl (by decide) rfl dX11_apart_18 ?_
    refine x_iconst (v := 0) C dX11_apart_19 ?_
    refine x_istore_n C [(3, .int (iN (0))), (2, .int (iN (Ct.allW N))), (0, .ref (b 0)), (1, .int (iN (w)))] rfl (by decide) rfl dX11_apart_20 ?_
    refine x_bipush C (-4) (by decide) dX11_apart_21 ?_
    refine x_istore C [(4, .int (iN (-4))), (3, .int (iN (0))), (2, .int (iN (Ct.allW N))), (0, .ref (b 0)), (1, .int (iN (w)))] (by decide) rfl dX11_apart_23 ?_
    refine x_iconst (v := 0) C dX11_apart_25 ?_
    refine x_istore C [(5, .int (iN (0))), (4, .int (iN (-4))), (3, .int (iN (0))), (2, .int (iN (Ct.allW N))), (0, .ref (b 0)), (1, .int (iN (w)))] (by decide) rfl dX11_apart_26 ?_
    have LP28 : ∀ (f : Nat) (m : Nat) (M1 : Ct) (v5_28 : Int) (v4_28 : Int) (v3_28 : Int), ((Ct.n N).toNat - m < f) → (m ≤ (Ct.n N).toNat) → ((v3_28 = 0 ↔ v4_28 < 0) ∧ 0 ≤ v3_28 ∧ v3_28 ≤ 6 * (m : Int)) → (((m : Int)) = v5_28) → (v4_28 = (apR N m)) → (v3_28 = (apN N m)) → Wx X 0 0 (WX X.γ b F (Ct.set_wa N (Ct.w N)) M1 P hp sd) 28 [(5, .int (iN (v5_28))), (4, .int (iN (v4_28))), (3, .int (iN (v3_28))), (2, .int (iN (Ct.allW N))), (0, .ref (b 0)), (1, .int (iN (w)))] [] := by
      intro f
      induction f with
      | zero => intro m M1 v5_28 v4_28 v3_28 hf; exact absurd hf (Nat.not_lt_zero _)
      | succ f ih28 =>
        intro m M1 v5_28 v4_28 v3_28 hf hm hz e5_28 e4_28 e3_28
        subst e5_28
        refine x_iload C 0 rfl dX11_apart_28 ?_
        refine x_aload_n C 4 rfl rfl dX11_apart_30 ?_
        refine x_get C in_X11_apart_X11 0 rfl rfl 1 (by decide) (List.mem_of_getElem? (i := 1) rfl) rfl (v := .ref (b 27)) rfl dX11_apart_31 ?_
        refine x_get C in_X11_apart_X1 27 rfl rfl 2 (by decide) (List.mem_of_getElem? (i := 2) rfl) rfl (v := .int (iN (Ct.n N))) rfl dX11_apart_34 ?_
        refine x_icmp_ge C 104 (by decide) (by omega) dX11_apart_37 (fun c_37 => ?_) (fun c_37 => ?_)
        · refine x_iload_n C 5 rfl rfl dX11_apart_104 ?_
          refine x_if_ne C 112 (by decide) (by omega) dX11_apart_105 (fun c_105 => ?_) (fun c_105 => ?_)
          · refine x_iload C 1 rfl dX11_apart_112 ?_
            exact hret _ _ _ _ dX11_apart_114 rfl ⟨(by have hz9 : m = (Ct.n N).toNat := (by omega); subst hz9; unfold q_apart; rw [if_pos (show 0 ≤ w ∧ w ≤ 1 by omega), if_neg (show ¬ w = 0 by omega)]; exact e4_28), ⟨(Ct.w N), (Ct.wa P), _, _, rfl⟩⟩
          · refine x_iload_n C 2 rfl rfl dX11_apart_108 ?_
            refine x_goto C 114 (by decide) dX11_apart_109 ?_
            exact hret _ _ _ _ dX11_apart_114 rfl ⟨(by have hz9 : m = (Ct.n N).toNat := (by omega); subst hz9; unfold q_apart; rw [if_pos (show 0 ≤ w ∧ w ≤ 1 by omega), if_pos (show w = 0 by omega)]; exact e3_28), ⟨(Ct.w N), (Ct.wa P), _, _, rfl⟩⟩
        · refine x_iload C 0 rfl dX11_apart_40 ?_
          refine x_iconst (v := 0) C dX11_apart_42 ?_
          refine x_iadd C dX11_apart_43 ?_
          refine x_istore C [(6, .int (iN ((m : Int) + 1))), (5, .int (iN ((m : Int)))), (4, .int (iN (v4_28))), (3, .int (iN (v3_28))), (2, .int (iN (Ct.allW N))), (0, .ref (b 0)), (1, .int (iN (w)))] (by decide) rfl dX11_apart_44 ?_
          have LP46 : ∀ (f : Nat) (k : Nat) (M2 : Ct) (v6_46 : Int) (v4_46 : Int) (v3_46 : Int), ((Ct.n N).toNat - (m + 1) - k < f) → ((m : Int) + 1 + (k : Int) ≤ Ct.n N) → ((v3_46 = 0 ↔ v4_46 < 0) ∧ 0 ≤ v3_46 ∧ v3_46 ≤ v3_28 + (k : Int)) → (((m : Int) + 1 + (k : Int)) = v6_46) → (v4_46 = (apr N (m : Int) v4_28 k)) → (v3_46 = (v3_28 + apn N (m : Int) k)) → Wx X 0 0 (WX X.γ b F (Ct.set_wa N (Ct.w N)) M2 P hp sd) 46 [(6, .int (iN (v6_46))), (5, .int (iN ((m : Int)))), (4, .int (iN (v4_46))), (3, .int (iN (v3_46))), (2, .int (iN (Ct.allW N))), (0, .ref (b 0)), (1, .int (iN (w)))] [] := by
            intro f
            induction f with
            | zero => intro k M2 v6_46 v4_46 v3_46 hf; exact absurd hf (Nat.not_lt_zero _)
            | succ f ih46 =>
              intro k M2 v6_46 v4_46 v3_46 hf hk hz2 e6_46 e4_46 e3_46
              subst e6_46
              refine x_iload C 0 rfl dX11_apart_46 ?_
              refine x_aload_n C 5 rfl rfl dX11_apart_48 ?_
              refine x_get C in_X11_apart_X11 0 rfl rfl 1 (by decide) (List.mem_of_getElem? (i := 1) rfl) rfl (v := .ref (b 27)) rfl dX11_apart_49 ?_
              refine x_get C in_X11_apart_X1 27 rfl rfl 2 (by decide) (List.mem_of_getElem? (i := 2) rfl) rfl (v := .int (iN (Ct.n N))) rfl dX11_apart_52 ?_
              refine x_icmp_ge C 98 (by decide) (by omega) dX11_apart_55 (fun c_55 => ?_) (fun c_55 => ?_)
              · refine x_iinc C 1 [(5, .int (iN ((m : Int) + 1))), (6, .int (iN ((m : Int) + 1 + (k : Int)))), (4, .int (iN (v4_46))), (3, .int (iN (v3_46))), (2, .int (iN (Ct.allW N))), (0, .ref (b 0)), (1, .int (iN (w)))] rfl rfl (by decide) rfl dX11_apart_98 ?_
                refine x_goto C 28 (by decide) dX11_apart_101 ?_
                refine Wx.subL [0, 2, 3, 4, 5, 6] rfl ?_
                exact ih28 (m + 1) (M2) _ _ _ (by omega) (by omega) (by omega) (by omega) (by have hz9 : k = (Ct.n N).toNat - (m + 1) := (by omega); subst hz9; show _ = apr N (m : Int) (apR N m) ((Ct.n N).toNat - (m + 1)); rw [← e4_28, e4_46]) (by have hz9 : k = (Ct.n N).toNat - (m + 1) := (by omega); subst hz9; show _ = apN N m + apn N (m : Int) ((Ct.n N).toNat - (m + 1)); rw [← e3_28, e3_46])
              · refine x_aload_n C 5 rfl rfl dX11_apart_58 ?_
                refine x_iload C 1 rfl dX11_apart_59 ?_
                refine x_iload C 0 rfl dX11_apart_61 ?_
                refine x_V_I C (As := [.int (iN ((m : Int))), .int (iN ((m : Int) + 1 + (k : Int)))]) (rest := []) 2 0 rfl rfl gX11_apart_X11_waterOfBothInOneCell rfl (c_X11_waterOfBothInOneCell _ _ b F (Ct.set_wa N (Ct.w N)) M2 P hp sd hN hF ((m : Int)) ((m : Int) + 1 + (k : Int)) (by omega) (by omega)) rfl ok_X11_waterOfBothInOneCell rfl rfl rfl rfl dX11_apart_63 (fun r w1 hp => ?_)
                obtain ⟨rfl, Mb119, rfl⟩ := hp
                show Wx X 0 0 (WX X.γ b F (Ct.set_wa N (Ct.w N)) Mb119 P hp sd) 66 [(6, .int (iN ((m : Int) + 1 + (k : Int)))), (5, .int (iN ((m : Int)))), (4, .int (iN (v4_46))), (3, .int (iN (v3_46))), (2, .int (iN (Ct.allW N))), (0, .ref (b 0)), (1, .int (iN (w)))] [.int (iN (Ct.allW (Ct.set_po (Ct.set_wa N (Ct.w N)) (upz (upz (Ct.po (Ct.set_wa N (Ct.w N))) ((m : Int)) (min (Ct.po (Ct.set_wa N (Ct.w N)) ((m : Int))) (Ct.po (Ct.set_wa N (Ct.w N)) ((m : Int) + 1 + (k : Int))))) ((m : Int) + 1 + (k : Int)) (min (Ct.po (Ct.set_wa N (Ct.w N)) ((m : Int))) (Ct.po (Ct.set_wa N (Ct.w N)) ((m : Int) + 1 + (k : Int))))))))]
                rw [show Ct.allW (Ct.set_po (Ct.set_wa N (Ct.w N)) (upz (upz (Ct.po (Ct.set_wa N (Ct.w N))) ((m : Int)) (min (Ct.po (Ct.set_wa N (Ct.w N)) ((m : Int))) (Ct.po (Ct.set_wa N (Ct.w N)) ((m : Int) + 1 + (k : Int))))) ((m : Int) + 1 + (k : Int)) (min (Ct.po (Ct.set_wa N (Ct.w N)) ((m : Int))) (Ct.po (Ct.set_wa N (Ct.w N)) ((m : Int) + 1 + (k : Int)))))) = apz N (m : Int) ((m : Int) + 1 + (k : Int)) from (by rw [apz_min]; try rfl)]
                obtain ⟨az, haz⟩ : ∃ z : Int, apz N (m : Int) ((m : Int) + 1 + (k : Int)) = z := ⟨_, rfl⟩
                rw [haz]
                have baz : 0 ≤ az ∧ az ≤ 300 := by rw [← haz, apz_min]; exact WFc.allW (WFc.posn hN (bd_upz (bd_upz (WFc.po hN) (by have b1 := WFc.po hN (m : Int); have b2 := WFc.po hN ((m : Int) + 1 + (k : Int)); omega)) (by have b1 := WFc.po hN (m : Int); have b2 := WFc.po hN ((m : Int) + 1 + (k : Int)); omega)))
                refine x_iload_n C 4 rfl rfl dX11_apart_66 ?_
                refine x_icmp_le C 92 (by decide) (by omega) dX11_apart_67 (fun c_67 => ?_) (fun c_67 => ?_)
                · refine x_iinc C 0 [(6, .int (iN (((m : Int) + 1 + (k : Int)) + 1))), (5, .int (iN ((m : Int)))), (4, .int (iN (v4_46))), (3, .int (iN (v3_46))), (2, .int (iN (Ct.allW N))), (0, .ref (b 0)), (1, .int (iN (w)))] rfl rfl (by decide) rfl dX11_apart_92 ?_
                  refine x_goto C 46 (by decide) dX11_apart_95 ?_
                  exact ih46 (k + 1) (Mb119) _ _ _ (by omega) (by omega) (by omega) (by omega) (by simp only [apr]; rw [haz, if_neg (fun z => absurd z.1 (by omega))]; exact e4_46) (by simp only [apn]; rw [haz, if_neg (by omega)]; omega)
                · refine x_iload_n C 3 rfl rfl dX11_apart_70 ?_
                  have LP87 : ∀ (s0_87 : Int), (s0_87 = (if v3_46 = 0 then 10 * (m : Int) + ((m : Int) + 1 + (k : Int)) else v4_46)) → Wx X 0 0 (WX X.γ b F (Ct.set_wa N (Ct.w N)) Mb119 P hp sd) 87 [(6, .int (iN ((m : Int) + 1 + (k : Int)))), (5, .int (iN ((m : Int)))), (4, .int (iN (v4_46))), (3, .int (iN (v3_46))), (2, .int (iN (Ct.allW N))), (0, .ref (b 0)), (1, .int (iN (w)))] [.int (iN (s0_87))] := by
                    intro s0_87 es0_87
                    refine x_istore C [(4, .int (iN (s0_87))), (6, .int (iN ((m : Int) + 1 + (k : Int)))), (5, .int (iN ((m : Int)))), (3, .int (iN (v3_46))), (2, .int (iN (Ct.allW N))), (0, .ref (b 0)), (1, .int (iN (w)))] (by decide) rfl dX11_apart_87 ?_
                    refine x_iinc C 3 [(3, .int (iN (v3_46 + 1))), (4, .int (iN (s0_87))), (6, .int (iN ((m : Int) + 1 + (k : Int)))), (5, .int (iN ((m : Int)))), (2, .int (iN (Ct.allW N))), (0, .ref (b 0)), (1, .int (iN (w)))] rfl rfl (by decide) rfl dX11_apart_89 ?_
                    refine x_iinc C 2 [(6, .int (iN (((m : Int) + 1 + (k : Int)) + 1))), (3, .int (iN (v3_46 + 1))), (4, .int (iN (s0_87))), (5, .int (iN ((m : Int)))), (2, .int (iN (Ct.allW N))), (0, .ref (b 0)), (1, .int (iN (w)))] rfl rfl (by decide) rfl dX11_apart_92 ?_
                    refine x_goto C 46 (by decide) dX11_apart_95 ?_
                    refine Wx.subL [0, 3, 2, 1, 4, 5, 6] rfl ?_
                    exact ih46 (k + 1) (Mb119) _ _ _ (by omega) (by omega) (by omega) (by omega) (by simp only [apr]; rw [haz, ← e4_46, es0_87]; by_cases q : v4_46 < 0; (rw [if_pos (by omega), if_pos ⟨c_67, q⟩]); (rw [if_neg (by omega), if_neg (fun z => q z.2)])) (by simp only [apn]; rw [haz, if_pos c_67]; omega)
                  refine x_if_ne C 85 (by decide) (by omega) dX11_apart_71 (fun c_71 => ?_) (fun c_71 => ?_)
                  · refine x_iload C 2 rfl dX11_apart_85 ?_
                    exact LP87 _ (by omega)
                  · refine x_bipush C (10) (by decide) dX11_apart_74 ?_
                    refine x_iload C 1 rfl dX11_apart_76 ?_
                    refine x_imul C dX11_apart_78 ?_
                    refine x_iload C 0 rfl dX11_apart_79 ?_
                    refine x_iadd C dX11_apart_81 ?_
                    refine x_goto C 87 (by decide) dX11_apart_82 ?_
                    exact LP87 _ (by omega)
          exact LP46 (((Ct.n N).toNat - (m + 1) - (0)) + 1) (0) (M1) _ _ _ (by omega) (by omega) (by omega) (by omega) (rfl) (by show _ = v3_28 + 0; omega)
    exact LP28 (((Ct.n N).toNat - (0)) + 1) (0) (M) _ _ _ (by omega) (by omega) (by decide) (by omega) (rfl) (rfl)
  · refine x_iconst (v := 0) C dX11_apart_9 ?_
    exact hret _ _ _ _ dX11_apart_10 rfl ⟨(by unfold q_apart; rw [if_neg (show ¬ (0 ≤ w ∧ w ≤ 1) by omega)]), ⟨(Ct.wa N), (Ct.wa P), _, _, rfl⟩⟩
end HXEaa
