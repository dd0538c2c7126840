section HXGab
theorem in_X11_judge_X11 : ∀ w ∈ u_ws RX11 TX11 6, w ∈ wsX11_judge := by decide +kernel
theorem in_X11_judge_X5 : ∀ w ∈ u_ws RX5 TX5 6, w ∈ wsX11_judge := by decide +kernel
theorem ok_X11_judge : okY yX11_judge 1 := by decide +kernel
def rmX11_judge : Room := { frames := 4, cells := 0, slots := 0, locals := 105 }
set_option maxRecDepth 100000 in
set_option maxHeartbeats 400000 in
theorem c_X11_judge (l : Launch) (γ : GX) (b : Nat → Nat) (F : Nat → Sh) (N M P : Ct) (hp sd : Int) (hN : WFc N) (hF : ∀ t : Nat, t < 8 → WFs (F t)) (d : Int) (h0_ : -2147483648 ≤ d ∧ d < 2147483648) : MI l γ yX11_judge wsX11_judge rmX11_judge [.ref (b 0), .int (iN (d))] (WX γ b F N M P hp sd) (fun r_ w_ => r_ = q_wr d (Sh.hd (F d.toNat)) 2 (fstz (q_jd N (Sh.so (F d.toNat)) (Sh.va (F d.toNat))) (Sh.sz (F d.toNat)).toNat) ∧ Wc γ b F N P hp w_) 0 0 := by
  refine MI.of (cc := cX11_judge) (maxL := 5) (rt := .int) RX11 rfl (by decide +kernel) rfl (Nat.le_of_ble_eq_true rfl) ?_
  intro X C hγ hl hnm hret
  subst hγ
  have hNn := WFc.n hN
  show Wx X 0 0 (WX X.γ b F N M P hp sd) 0 [(0, .ref (b 0)), (1, .int (iN (d)))] []
  refine x_aload_n C 0 rfl rfl dX11_judge_0 ?_
  refine x_iload_n C 1 rfl rfl dX11_judge_1 ?_
  refine x_V_I C (As := [.int (iN (d))]) (rest := []) 1 0 rfl rfl gX11_judge_X11_rowRefusal rfl (c_X11_rowRefusal _ _ b F N M P hp sd hN hF (d) (by omega)) rfl ok_X11_rowRefusal rfl rfl rfl rfl dX11_judge_2 (fun r w1 hp => ?_)
  obtain ⟨rfl, rfl⟩ := hp
  show Wx X 0 0 (WX X.γ b F N M P hp sd) 5 [(0, .ref (b 0)), (1, .int (iN (d)))] [.int (iN (if 0 ≤ d ∧ d ≤ 7 then (if Sh.hd (F d.toNat) = 0 then -11 else if Sh.hd (F d.toNat) = 2 then 0 else -12) else -1))]
  refine x_istore_n C [(2, .int (iN (if 0 ≤ d ∧ d ≤ 7 then (if Sh.hd (F d.toNat) = 0 then -11 else if Sh.hd (F d.toNat) = 2 then 0 else -12) else -1))), (0, .ref (b 0)), (1, .int (iN (d)))] rfl (by decide) rfl dX11_judge_5 ?_
  refine x_iload_n C 0 rfl rfl dX11_judge_6 ?_
  refine x_if_ge C 12 (by decide) (by omega) dX11_judge_7 (fun c_7 => ?_) (fun c_7 => ?_)
  · have hFd := hF d.toNat (by omega)
    have hSz := WFs.sz hFd
    refine x_aload_n C 1 rfl rfl dX11_judge_12 ?_
    refine x_get C in_X11_judge_X11 0 rfl rfl 0 (by decide) (List.mem_of_getElem? (i := 1) rfl) rfl (v := .ref (b 1)) rfl dX11_judge_13 ?_
    refine x_iload_n C 2 rfl rfl dX11_judge_16 ?_
    refine x_aaload C (f := fun k => some (b (2 + 2 * k.toNat))) (b := b (2 + 2 * d.toNat)) 1 rfl (by omega) rfl rfl dX11_judge_17 ?_
    refine x_astore_n C [(3, .ref (b (2 + 2 * d.toNat))), (2, .int (iN (if 0 ≤ d ∧ d ≤ 7 then (if Sh.hd (F d.toNat) = 0 then -11 else if Sh.hd (F d.toNat) = 2 then 0 else -12) else -1))), (0, .ref (b 0)), (1, .int (iN (d)))] rfl (by decide) rfl dX11_judge_18 ?_
    refine x_aload_n C 2 rfl rfl dX11_judge_19 ?_
    refine x_get C in_X11_judge_X11 0 rfl rfl 2 (by decide) (List.mem_of_getElem? (i := 2) rfl) rfl (v := .ref (b 38)) rfl dX11_judge_20 ?_
    refine x_aload_n C 2 rfl rfl dX11_judge_23 ?_
    refine x_get C in_X11_judge_X11 0 rfl rfl 1 (by decide) (List.mem_of_getElem? (i := 3) rfl) rfl (v := .ref (b 27)) rfl dX11_judge_24 ?_
    refine x_V_V C (As := [.ref (b 27)]) (rest := []) 1 38 rfl rfl gX11_judge_X1_become rfl (MV.bMN b F N M P hp sd (fun Z => Z = Ct.set_wa N (Ct.wa M)) (c_X1_become _ _ (adM b) (adN b) M N) (fun w h => ⟨_, rfl, h⟩)) rfl ok_X1_become rfl rfl rfl rfl dX11_judge_27 (fun w1 hp => ?_)
    obtain ⟨_, rfl, rfl⟩ := hp
    refine Wx.eqW (ws' := (WX X.γ b F N (Ct.set_wa N (Ct.wa M)) P hp sd)) rfl ?_
    refine x_iconst (v := 0) C dX11_judge_30 ?_
    refine x_istore C [(4, .int (iN (0))), (3, .ref (b (2 + 2 * d.toNat))), (2, .int (iN (if 0 ≤ d ∧ d ≤ 7 then (if Sh.hd (F d.toNat) = 0 then -11 else if Sh.hd (F d.toNat) = 2 then 0 else -12) else -1))), (0, .ref (b 0)), (1, .int (iN (d)))] (by decide) rfl dX11_judge_31 ?_
    have LP33 : ∀ (f : Nat) (k : Nat) (WA : Int → Int) (v4_33 : Int), ((Sh.sz (F d.toNat)).toNat - k < f) → (k ≤ (Sh.sz (F d.toNat)).toNat) → (fstz (q_jd N (Sh.so (F d.toNat)) (Sh.va (F d.toNat))) k = -4) → (((k : Int)) = v4_33) → Wx X 0 0 (WX X.γ b F N (Ct.set_wa (Ct.days N k) (WA)) P hp sd) 33 [(4, .int (iN (v4_33))), (3, .ref (b (2 + 2 * d.toNat))), (2, .int (iN (if 0 ≤ d ∧ d ≤ 7 then (if Sh.hd (F d.toNat) = 0 then -11 else if Sh.hd (F d.toNat) = 2 then 0 else -12) else -1))), (0, .ref (b 0)), (1, .int (iN (d)))] [] := by
      intro f
      induction f with
      | zero => intro k WA v4_33 hf; exact absurd hf (Nat.not_lt_zero _)
      | succ f ih33 =>
        intro k WA v4_33 hf hk hf0 e4_33
        subst e4_33
        refine x_iload C 0 rfl dX11_judge_33 ?_
        refine x_aload_n C 1 rfl rfl dX11_judge_35 ?_
        refine x_get C in_X11_judge_X5 (2 + 2 * d.toNat) (WX_so _ _ _ _ _ _ _ (show d.toNat < 8 by omega)) rfl 4 (by decide) (List.mem_of_getElem? (i := 4) rfl) rfl (v := .int (iN (Sh.sz (F d.toNat)))) rfl dX11_judge_36 ?_
        refine x_icmp_ge C 85 (by decide) (by omega) dX11_judge_39 (fun c_39 => ?_) (fun c_39 => ?_)
        · refine x_bipush C (-4) (by decide) dX11_judge_85 ?_
          exact hret _ _ _ _ dX11_judge_87 rfl ⟨(by unfold q_wr; rw [if_pos (show 0 ≤ d ∧ d ≤ 7 by omega), if_neg (show ¬ Sh.hd (F d.toNat) = 0 by omega), if_pos (show Sh.hd (F d.toNat) = 2 by omega)]; rw [show (Sh.sz (F d.toNat)).toNat = k by omega, hf0]), ⟨(Ct.wa N), (Ct.wa P), _, _, rfl⟩⟩
        · refine x_aload_n C 1 rfl rfl dX11_judge_42 ?_
          refine x_iload C 0 rfl dX11_judge_43 ?_
          refine x_V_I C (As := [.int (iN ((k : Int)))]) (rest := []) 1 (2 + 2 * d.toNat) (WX_so _ _ _ _ _ _ _ (show d.toNat < 8 by omega)) rfl gX11_judge_X5_skips rfl (MI.shr b F N (Ct.set_wa (Ct.days N k) (WA)) P hp sd d.toNat (show d.toNat < 8 by omega) (fun r => r = (bz (Sh.va (F d.toNat) ((k : Int)) = lsz (Sh.so (F d.toNat))))) (c_X5_skips _ _ (saD b d.toNat) (F d.toNat) (hF d.toNat (by omega)) ((k : Int)) (by omega)) (fun r w h => ⟨h.1, h.2⟩)) rfl ok_X5_skips rfl rfl rfl rfl dX11_judge_45 (fun r w1 hp => ?_)
          obtain ⟨rfl, rfl⟩ := hp
          refine x_ifne_bz C 71 (by decide) dX11_judge_48 (fun c_48 => ?_) (fun c_48 => ?_)
          · refine x_aload_n C 3 rfl rfl dX11_judge_71 ?_
            refine x_get C in_X11_judge_X11 0 rfl rfl 2 (by decide) (List.mem_of_getElem? (i := 2) rfl) rfl (v := .ref (b 38)) rfl dX11_judge_72 ?_
            refine x_V_I C (As := []) (rest := []) 0 38 rfl rfl gX11_judge_X1_passDay rfl (MI.fM b F N (Ct.set_wa (Ct.days N k) (WA)) P hp sd (fun r Z => r = ((Ct.D (Ct.set_wa (Ct.days N k) (WA)) (Ct.n (Ct.set_wa (Ct.days N k) (WA))).toNat).2.2) ∧ (Ct.day (Ct.set_wa (Ct.days N k) (WA))) = Z) (c_X1_passDay _ _ (adM b) (Ct.set_wa (Ct.days N k) (WA)) (Ct.days_wf hN k)) (fun r w h => ⟨_, ⟨h.1, rfl⟩, h.2⟩)) rfl ok_X1_passDay rfl rfl rfl rfl dX11_judge_75 (fun r w1 hp => ?_)
            obtain ⟨_, ⟨rfl, rfl⟩, rfl⟩ := hp
            show Wx X 0 0 (WX X.γ b F N (Ct.set_wa (Ct.day (Ct.days N k)) (WA)) P hp sd) 78 [(4, .int (iN ((k : Int)))), (3, .ref (b (2 + 2 * d.toNat))), (2, .int (iN (if 0 ≤ d ∧ d ≤ 7 then (if Sh.hd (F d.toNat) = 0 then -11 else if Sh.hd (F d.toNat) = 2 then 0 else -12) else -1))), (0, .ref (b 0)), (1, .int (iN (d)))] [.int (iN ((Ct.D (Ct.days N k) (Ct.n (Ct.days N k)).toNat).2.2))]
            show Wx X 0 0 (WX X.γ b F N (Ct.set_wa (Ct.day (Ct.days N k)) (WA)) P hp sd) 78 [(4, .int (iN ((k : Int)))), (3, .ref (b (2 + 2 * d.toNat))), (2, .int (iN (if 0 ≤ d ∧ d ≤ 7 then (if Sh.hd (F d.toNat) = 0 then -11 else if Sh.hd (F d.toNat) = 2 then 0 else -12) else -1))), (0, .ref (b 0)), (1, .int (iN (d)))] [.int (iN ((Ct.D (Ct.days N k) (Ct.n (Ct.days N k)).toNat).2.2))]
            refine x_pop C rfl dX11_judge_78 ?_
            refine x_iinc C 0 [(4, .int (iN ((k : Int) + 1))), (3, .ref (b (2 + 2 * d.toNat))), (2, .int (iN (if 0 ≤ d ∧ d ≤ 7 then (if Sh.hd (F d.toNat) = 0 then -11 else if Sh.hd (F d.toNat) = 2 then 0 else -12) else -1))), (0, .ref (b 0)), (1, .int (iN (d)))] rfl rfl (by decide) rfl dX11_judge_79 ?_
            refine x_goto C 33 (by decide) dX11_judge_82 ?_
            exact ih33 (k + 1) (WA) _ (by omega) (by omega) (fstz_p hf0 (show q_jd N (Sh.so (F d.toNat)) (Sh.va (F d.toNat)) k = 1 from if_pos (Or.inl c_48))) (by omega)
          · refine x_aload_n C 1 rfl rfl dX11_judge_51 ?_
            refine x_get C in_X11_judge_X5 (2 + 2 * d.toNat) (WX_so _ _ _ _ _ _ _ (show d.toNat < 8 by omega)) rfl 5 (by decide) (List.mem_of_getElem? (i := 5) rfl) rfl (v := .ref (b (3 + 2 * d.toNat))) rfl dX11_judge_52 ?_
            refine x_iload C 0 rfl dX11_judge_55 ?_
            refine x_iaload C (f := (Sh.va (F d.toNat))) (3 + 2 * d.toNat) (WX_sv _ _ _ _ _ _ _ (show d.toNat < 8 by omega)) (by omega) rfl dX11_judge_57 ?_
            have b143 := WFs.va (hF d.toNat (by omega)) ((k : Int))
            refine x_aload_n C 3 rfl rfl dX11_judge_58 ?_
            refine x_get C in_X11_judge_X11 0 rfl rfl 2 (by decide) (List.mem_of_getElem? (i := 2) rfl) rfl (v := .ref (b 38)) rfl dX11_judge_59 ?_
            refine x_V_I C (As := []) (rest := [.int (iN ((Sh.va (F d.toNat)) (k : Int)))]) 0 38 rfl rfl gX11_judge_X1_allWater rfl (MI.fM b F N (Ct.set_wa (Ct.days N k) (WA)) P hp sd (fun r Z => r = (Ct.allW (Ct.days N k)) ∧ (Ct.set_wa (Ct.days N k) (Ct.w (Ct.set_wa (Ct.days N k) (WA)))) = Z) (c_X1_allWater _ _ (adM b) (Ct.set_wa (Ct.days N k) (WA)) (Ct.days_wf hN k)) (fun r w h => ⟨_, ⟨h.1, rfl⟩, h.2⟩)) rfl ok_X1_allWater rfl rfl rfl rfl dX11_judge_62 (fun r w1 hp => ?_)
            obtain ⟨_, ⟨rfl, rfl⟩, rfl⟩ := hp
            show Wx X 0 0 (WX X.γ b F N (Ct.set_wa (Ct.days N k) (Ct.w (Ct.set_wa (Ct.days N k) (WA)))) P hp sd) 65 [(4, .int (iN ((k : Int)))), (3, .ref (b (2 + 2 * d.toNat))), (2, .int (iN (if 0 ≤ d ∧ d ≤ 7 then (if Sh.hd (F d.toNat) = 0 then -11 else if Sh.hd (F d.toNat) = 2 then 0 else -12) else -1))), (0, .ref (b 0)), (1, .int (iN (d)))] [.int (iN (Ct.allW (Ct.days N k))), .int (iN ((Sh.va (F d.toNat)) (k : Int)))]
            show Wx X 0 0 (WX X.γ b F N (Ct.set_wa (Ct.days N k) (Ct.w (Ct.set_wa (Ct.days N k) (WA)))) P hp sd) 65 [(4, .int (iN ((k : Int)))), (3, .ref (b (2 + 2 * d.toNat))), (2, .int (iN (if 0 ≤ d ∧ d ≤ 7 then (if Sh.hd (F d.toNat) = 0 then -11 else if Sh.hd (F d.toNat) = 2 then 0 else -12) else -1))), (0, .ref (b 0)), (1, .int (iN (d)))] [.int (iN (Ct.allW (Ct.days N k))), .int (iN ((Sh.va (F d.toNat)) (k : Int)))]
            have b144 := WFc.allW (Ct.days_wf hN k)
            refine x_icmp_eq C 71 (by decide) (by omega) dX11_judge_65 (fun c_65 => ?_) (fun c_65 => ?_)
            · refine x_aload_n C 3 rfl rfl dX11_judge_71 ?_
              refine x_get C in_X11_judge_X11 0 rfl rfl 2 (by decide) (List.mem_of_getElem? (i := 2) rfl) rfl (v := .ref (b 38)) rfl dX11_judge_72 ?_
              refine x_V_I C (As := []) (rest := []) 0 38 rfl rfl gX11_judge_X1_passDay rfl (MI.fM b F N (Ct.set_wa (Ct.days N k) (Ct.w (Ct.set_wa (Ct.days N k) (WA)))) P hp sd (fun r Z => r = ((Ct.D (Ct.set_wa (Ct.days N k) (Ct.w (Ct.set_wa (Ct.days N k) (WA)))) (Ct.n (Ct.set_wa (Ct.days N k) (Ct.w (Ct.set_wa (Ct.days N k) (WA))))).toNat).2.2) ∧ (Ct.day (Ct.set_wa (Ct.days N k) (Ct.w (Ct.set_wa (Ct.days N k) (WA))))) = Z) (c_X1_passDay _ _ (adM b) (Ct.set_wa (Ct.days N k) (Ct.w (Ct.set_wa (Ct.days N k) (WA)))) (Ct.days_wf hN k)) (fun r w h => ⟨_, ⟨h.1, rfl⟩, h.2⟩)) rfl ok_X1_passDay rfl rfl rfl rfl dX11_judge_75 (fun r w1 hp => ?_)
              obtain ⟨_, ⟨rfl, rfl⟩, rfl⟩ := hp
              show Wx X 0 0 (WX X.γ b F N (Ct.set_wa (Ct.day (Ct.days N k)) (Ct.w (Ct.set_wa (Ct.days N k) (WA)))) P hp sd) 78 [(4, .int (iN ((k : Int)))), (3, .ref (b (2 + 2 * d.toNat))), (2, .int (iN (if 0 ≤ d ∧ d ≤ 7 then (if Sh.hd (F d.toNat) = 0 then -11 else if Sh.hd (F d.toNat) = 2 then 0 else -12) else -1))), (0, .ref (b 0)), (1, .int (iN (d)))] [.int (iN ((Ct.D (Ct.days N k) (Ct.n (Ct.days N k)).toNat).2.2))]
              show Wx X 0 0 (WX X.γ b F N (Ct.set_wa (Ct.day (Ct.days N k)) (Ct.w (Ct.set_wa (Ct.days N k) (WA)))) P hp sd) 78 [(4, .int (iN ((k : Int)))), (3, .ref (b (2 + 2 * d.toNat))), (2, .int (iN (if 0 ≤ d ∧ d ≤ 7 then (if Sh.hd (F d.toNat) = 0 then -11 else if Sh.hd (F d.toNat) = 2 then 0 else -12) else -1))), (0, .ref (b 0)), (1, .int (iN (d)))] [.int (iN ((Ct.D (Ct.days N k) (Ct.n (Ct.days N k)).toNat).2.2))]
              refine x_pop C rfl dX11_judge_78 ?_
              refine x_iinc C 0 [(4, .int (iN ((k : Int) + 1))), (3, .ref (b (2 + 2 * d.toNat))), (2, .int (iN (if 0 ≤ d ∧ d ≤ 7 then (if Sh.hd (F d.toNat) = 0 then -11 else if Sh.hd (F d.toNat) = 2 then 0 else -12) else -1))), (0, .ref (b 0)), (1, .int (iN (d)))] rfl rfl (by decide) rfl dX11_judge_79 ?_
              refine x_goto C 33 (by decide) dX11_judge_82 ?_
              exact ih33 (k + 1) (Ct.w (Ct.set_wa (Ct.days N k) (WA))) _ (by omega) (by omega) (fstz_p hf0 (show q_jd N (Sh.so (F d.toNat)) (Sh.va (F d.toNat)) k = 1 from if_pos (Or.inr c_65))) (by omega)
            · refine x_iload C 0 rfl dX11_judge_68 ?_
              exact hret _ _ _ _ dX11_judge_70 rfl ⟨(by have e1 := fstz_f hf0 (show q_jd N (Sh.so (F d.toNat)) (Sh.va (F d.toNat)) k = 0 from if_neg (fun z => z.elim (fun y => c_48 y) (fun y => c_65 y))); unfold q_wr; rw [if_pos (show 0 ≤ d ∧ d ≤ 7 by omega), if_neg (show ¬ Sh.hd (F d.toNat) = 0 by omega), if_pos (show Sh.hd (F d.toNat) = 2 by omega)]; rw [fstz_end (q_jd N (Sh.so (F d.toNat)) (Sh.va (F d.toNat))) (k := k + 1) (by omega) (Or.inr (by rw [e1]; omega)), e1]), ⟨(Ct.wa N), (Ct.wa P), _, _, rfl⟩⟩
    exact LP33 (((Sh.sz (F d.toNat)).toNat - (0)) + 1) (0) (Ct.wa M) _ (by omega) (by omega) (rfl) (by omega)
  · refine x_iload_n C 0 rfl rfl dX11_judge_10 ?_
    exact hret _ _ _ _ dX11_judge_11 rfl ⟨(by unfold q_wr; omega), ⟨(Ct.wa N), (Ct.wa P), _, _, rfl⟩⟩
end HXGab
