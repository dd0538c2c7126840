section HXHab
theorem in_X11_country_X11 : ∀ w ∈ u_ws RX11 TX11 6, w ∈ wsX11_country := by decide +kernel
theorem in_X11_country_X5 : ∀ w ∈ u_ws RX5 TX5 6, w ∈ wsX11_country := by decide +kernel
theorem ok_X11_country : okY yX11_country 1 := by decide +kernel
def rmX11_country : Room := { frames := 7, cells := 0, slots := 0, locals := 153 }
set_option maxRecDepth 100000 in
set_option maxHeartbeats 400000 in
theorem c_X11_country (l : Launch) (γ : GX) (b : Nat → Nat) (F : Nat → Sh) (N M P : Ct) (hp sd : Int) (hN : WFc N) (hF : ∀ t : Nat, t < 8 → WFs (F t)) (d : Int) (h0_ : -2147483648 ≤ d ∧ d < 2147483648) (h1_ : 0 ≤ Ct.dy N ∧ Ct.dy N ≤ 999) : MI l γ yX11_country wsX11_country rmX11_country [.ref (b 0), .int (iN (d))] (WX γ b F N M P hp sd) (fun r_ w_ => r_ = q_country d (Sh.hd (F d.toNat)) (Sh.so (F d.toNat)) (Sh.sz (F d.toNat)) (Sh.vz (F d.toNat)) N ∧ ((0 ≤ r_ ∧ Wc γ b F (runS (Sh.vz (F d.toNat)) (Sh.sz (F d.toNat)) 100 0 0 N).2 P hp w_) ∨ (r_ < 0 ∧ Wc γ b F N P hp w_))) 0 0 := by
  refine MI.of (cc := cX11_country) (maxL := 7) (rt := .int) RX11 rfl (by decide +kernel) rfl (Nat.le_of_ble_eq_true rfl) ?_
  intro X C hγ hl hnm hret
  subst hγ
  have hNn := WFc.n hN
  show Wx X 0 0 (WX X.γ b F N M P hp sd) 0 [(0, .ref (b 0)), (1, .int (iN (d)))] []
  refine x_aload_n C 0 rfl rfl dX11_country_0 ?_
  refine x_iload_n C 1 rfl rfl dX11_country_1 ?_
  refine x_V_I C (As := [.int (iN (d))]) (rest := []) 1 0 rfl rfl gX11_country_X11_rowRefusal rfl (c_X11_rowRefusal _ _ b F N M P hp sd hN hF (d) (by omega)) rfl ok_X11_rowRefusal rfl rfl rfl rfl dX11_country_2 (fun r w1 hp => ?_)
  obtain ⟨rfl, rfl⟩ := hp
  show Wx X 0 0 (WX X.γ b F N M P hp sd) 5 [(0, .ref (b 0)), (1, .int (iN (d)))] [.int (iN (if 0 ≤ d ∧ d ≤ 7 then (if Sh.hd (F d.toNat) = 0 then -11 else if Sh.hd (F d.toNat) = 2 then 0 else -12) else -1))]
  refine x_istore_n C [(2, .int (iN (if 0 ≤ d ∧ d ≤ 7 then (if Sh.hd (F d.toNat) = 0 then -11 else if Sh.hd (F d.toNat) = 2 then 0 else -12) else -1))), (0, .ref (b 0)), (1, .int (iN (d)))] rfl (by decide) rfl dX11_country_5 ?_
  refine x_iload_n C 0 rfl rfl dX11_country_6 ?_
  refine x_if_ge C 12 (by decide) (by omega) dX11_country_7 (fun c_7 => ?_) (fun c_7 => ?_)
  · have hFd := hF d.toNat (by omega)
    have hSz := WFs.sz hFd
    have hSo := WFs.so hFd
    refine x_aload_n C 1 rfl rfl dX11_country_12 ?_
    refine x_get C in_X11_country_X11 0 rfl rfl 0 (by decide) (List.mem_of_getElem? (i := 1) rfl) rfl (v := .ref (b 1)) rfl dX11_country_13 ?_
    refine x_iload_n C 2 rfl rfl dX11_country_16 ?_
    refine x_aaload C (f := fun k => some (b (2 + 2 * k.toNat))) (b := b (2 + 2 * d.toNat)) 1 rfl (by omega) rfl rfl dX11_country_17 ?_
    refine x_astore_n C [(3, .ref (b (2 + 2 * d.toNat))), (2, .int (iN (if 0 ≤ d ∧ d ≤ 7 then (if Sh.hd (F d.toNat) = 0 then -11 else if Sh.hd (F d.toNat) = 2 then 0 else -12) else -1))), (0, .ref (b 0)), (1, .int (iN (d)))] rfl (by decide) rfl dX11_country_18 ?_
    refine x_aload_n C 0 rfl rfl dX11_country_19 ?_
    refine x_get C in_X11_country_X5 (2 + 2 * d.toNat) (WX_so _ _ _ _ _ _ _ (show d.toNat < 8 by omega)) rfl 3 (by decide) (List.mem_of_getElem? (i := 2) rfl) rfl (v := .int (iN (Sh.so (F d.toNat)))) rfl dX11_country_20 ?_
    refine x_if_eq C 29 (by decide) (by omega) dX11_country_23 (fun c_23 => ?_) (fun c_23 => ?_)
    · refine x_aload_n C 0 rfl rfl dX11_country_29 ?_
      refine x_S_I C (As := [.ref (b (2 + 2 * d.toNat))]) (rest := []) 1 gX11_country_X7_firstBadPlace (MI.shr b F N M P hp sd d.toNat (show d.toNat < 8 by omega) (fun r => r = (fbad (Sh.vz (F d.toNat)) (Sh.sz (F d.toNat)) 101 0)) (c_X7_firstBadPlace _ _ (saD b d.toNat) (F d.toNat) (hF d.toNat (by omega))) (fun r w h => ⟨h.1, h.2⟩)) rfl ok_X7_firstBadPlace rfl rfl rfl rfl dX11_country_30 (fun r w1 hp => ?_)
      obtain ⟨rfl, rfl⟩ := hp
      show Wx X 0 0 (WX X.γ b F N M P hp sd) 33 [(3, .ref (b (2 + 2 * d.toNat))), (2, .int (iN (if 0 ≤ d ∧ d ≤ 7 then (if Sh.hd (F d.toNat) = 0 then -11 else if Sh.hd (F d.toNat) = 2 then 0 else -12) else -1))), (0, .ref (b 0)), (1, .int (iN (d)))] [.int (iN (fbad (Sh.vz (F d.toNat)) (Sh.sz (F d.toNat)) 101 0))]
      obtain ⟨fb, hfb⟩ : ∃ z : Int, fbad (Sh.vz (F d.toNat)) (Sh.sz (F d.toNat)) 101 0 = z := ⟨_, rfl⟩
      rw [hfb]
      have hfb1 : -1 ≤ fb ∧ fb ≤ 2000 := by rw [← hfb]; exact fbad_b _ _ 101 0 (by omega)
      refine x_istore C [(4, .int (iN (fb))), (3, .ref (b (2 + 2 * d.toNat))), (2, .int (iN (if 0 ≤ d ∧ d ≤ 7 then (if Sh.hd (F d.toNat) = 0 then -11 else if Sh.hd (F d.toNat) = 2 then 0 else -12) else -1))), (0, .ref (b 0)), (1, .int (iN (d)))] (by decide) rfl dX11_country_33 ?_
      refine x_iload C 0 rfl dX11_country_35 ?_
      refine x_if_lt C 47 (by decide) (by omega) dX11_country_37 (fun c_37 => ?_) (fun c_37 => ?_)
      · refine x_aload_n C 3 rfl rfl dX11_country_47 ?_
        refine x_get C in_X11_country_X11 0 rfl rfl 2 (by decide) (List.mem_of_getElem? (i := 3) rfl) rfl (v := .ref (b 38)) rfl dX11_country_48 ?_
        refine x_aload_n C 3 rfl rfl dX11_country_51 ?_
        refine x_get C in_X11_country_X11 0 rfl rfl 1 (by decide) (List.mem_of_getElem? (i := 4) rfl) rfl (v := .ref (b 27)) rfl dX11_country_52 ?_
        refine x_V_V C (As := [.ref (b 27)]) (rest := []) 1 38 rfl rfl gX11_country_X1_become rfl (MV.bMN b F N M P hp sd (fun Z => Z = Ct.set_wa N (Ct.wa M)) (c_X1_become _ _ (adM b) (adN b) M N) (fun w h => ⟨_, rfl, h⟩)) rfl ok_X1_become rfl rfl rfl rfl dX11_country_55 (fun w1 hp => ?_)
        obtain ⟨_, rfl, rfl⟩ := hp
        refine Wx.eqW (ws' := (WX X.γ b F N (Ct.set_wa N (Ct.wa M)) P hp sd)) rfl ?_
        refine x_iconst (v := 0) C dX11_country_58 ?_
        refine x_istore C [(5, .int (iN (0))), (4, .int (iN (fb))), (3, .ref (b (2 + 2 * d.toNat))), (2, .int (iN (if 0 ≤ d ∧ d ≤ 7 then (if Sh.hd (F d.toNat) = 0 then -11 else if Sh.hd (F d.toNat) = 2 then 0 else -12) else -1))), (0, .ref (b 0)), (1, .int (iN (d)))] (by decide) rfl dX11_country_59 ?_
        refine x_iconst (v := 0) C dX11_country_61 ?_
        refine x_istore C [(6, .int (iN (0))), (5, .int (iN (0))), (4, .int (iN (fb))), (3, .ref (b (2 + 2 * d.toNat))), (2, .int (iN (if 0 ≤ d ∧ d ≤ 7 then (if Sh.hd (F d.toNat) = 0 then -11 else if Sh.hd (F d.toNat) = 2 then 0 else -12) else -1))), (0, .ref (b 0)), (1, .int (iN (d)))] (by decide) rfl dX11_country_62 ?_
        have LP64 : ∀ (f : Nat) (k : Nat) (C1 : Ct) (WA : Int → Int) (v6_64 : Int) (v5_64 : Int), (30 - k < f) → (k ≤ 25) → (WFc C1) → (0 ≤ Ct.dy C1 ∧ Ct.dy C1 ≤ 999) → (fbO (Sh.vz (F d.toNat)) (Sh.sz (F d.toNat)) k) → (4 * (k : Int) ≤ (pz (Sh.vz (F d.toNat)) k)) → (hid (runS (Sh.vz (F d.toNat)) (Sh.sz (F d.toNat)) 100 0 0 N = runS (Sh.vz (F d.toNat)) (Sh.sz (F d.toNat)) (100 - k) (pz (Sh.vz (F d.toNat)) k) (k : Int) C1)) → (((pz (Sh.vz (F d.toNat)) k)) = v6_64) → (((k : Int)) = v5_64) → Wx X 0 0 (WX X.γ b F N (Ct.set_wa C1 (WA)) P hp sd) 64 [(6, .int (iN (v6_64))), (5, .int (iN (v5_64))), (4, .int (iN (fb))), (3, .ref (b (2 + 2 * d.toNat))), (2, .int (iN (if 0 ≤ d ∧ d ≤ 7 then (if Sh.hd (F d.toNat) = 0 then -11 else if Sh.hd (F d.toNat) = 2 then 0 else -12) else -1))), (0, .ref (b 0)), (1, .int (iN (d)))] [] := by
          intro f
          induction f with
          | zero => intro k C1 WA v6_64 v5_64 hf; exact absurd hf (Nat.not_lt_zero _)
          | succ f ih64 =>
            intro k C1 WA v6_64 v5_64 hf hk hCw hCd hO hp4 hr e6_64 e5_64
            subst e5_64
            subst e6_64
            have hpz0 := pz_0 (u := (Sh.vz (F d.toNat))) k
            have hpz1 := pz_up (u := (Sh.vz (F d.toNat))) k
            refine x_iload C 0 rfl dX11_country_64 ?_
            refine x_aload_n C 3 rfl rfl dX11_country_66 ?_
            refine x_get C in_X11_country_X5 (2 + 2 * d.toNat) (WX_so _ _ _ _ _ _ _ (show d.toNat < 8 by omega)) rfl 4 (by decide) (List.mem_of_getElem? (i := 5) rfl) rfl (v := .int (iN (Sh.sz (F d.toNat)))) rfl dX11_country_67 ?_
            refine x_icmp_ge C 117 (by decide) (by omega) dX11_country_70 (fun c_70 => ?_) (fun c_70 => ?_)
            · have hr : hid (runS (Sh.vz (F d.toNat)) (Sh.sz (F d.toNat)) 100 0 0 N = ((k : Int), C1)) := by have hr : _ = _ := hr; show _ = _; rw [hr]; exact runS_end (by omega) _
              refine x_aload_n C 5 rfl rfl dX11_country_117 ?_
              refine x_get C in_X11_country_X11 0 rfl rfl 1 (by decide) (List.mem_of_getElem? (i := 4) rfl) rfl (v := .ref (b 27)) rfl dX11_country_118 ?_
              refine x_aload_n C 5 rfl rfl dX11_country_121 ?_
              refine x_get C in_X11_country_X11 0 rfl rfl 2 (by decide) (List.mem_of_getElem? (i := 3) rfl) rfl (v := .ref (b 38)) rfl dX11_country_122 ?_
              refine x_V_V C (As := [.ref (b 38)]) (rest := []) 1 27 rfl rfl gX11_country_X1_become rfl (MV.bNM b F N (Ct.set_wa C1 (WA)) P hp sd (fun Z => Z = Ct.set_wa (Ct.set_wa C1 (WA)) (Ct.wa N)) (c_X1_become _ _ (adN b) (adM b) N (Ct.set_wa C1 (WA))) (fun w h => ⟨_, rfl, h⟩)) rfl ok_X1_become rfl rfl rfl rfl dX11_country_125 (fun w1 hp => ?_)
              obtain ⟨_, rfl, rfl⟩ := hp
              refine Wx.eqW (ws' := (WX X.γ b F (Ct.set_wa C1 (Ct.wa N)) (Ct.set_wa C1 (WA)) P hp sd)) rfl ?_
              refine x_iload C 1 rfl dX11_country_128 ?_
              exact hret _ _ _ _ dX11_country_130 rfl ⟨(by have hr : _ = _ := hr; unfold q_country; unfold q_wr; rw [if_pos (show 0 ≤ d ∧ d ≤ 7 by omega), if_neg (show ¬ Sh.hd (F d.toNat) = 0 by omega), if_pos (show Sh.hd (F d.toNat) = 2 by omega)]; rw [if_neg (show ¬ Sh.so (F d.toNat) ≠ 0 by omega), hfb, if_neg (show ¬ 0 ≤ fb by omega), hr]), Or.inl ⟨(by omega), by have hr : _ = _ := hr; rw [hr]; exact ⟨(Ct.wa N), (Ct.wa P), _, _, rfl⟩⟩⟩
            · refine x_iload C 1 rfl dX11_country_73 ?_
              refine x_bipush C (100) (by decide) dX11_country_75 ?_
              refine x_icmp_ge C 117 (by decide) (by omega) dX11_country_77 (fun c_77 => ?_) (fun c_77 => ?_)
              · exfalso
                omega
              · refine x_aload_n C 3 rfl rfl dX11_country_80 ?_
                refine x_iload C 0 rfl dX11_country_81 ?_
                refine x_aload_n C 5 rfl rfl dX11_country_83 ?_
                refine x_get C in_X11_country_X11 0 rfl rfl 2 (by decide) (List.mem_of_getElem? (i := 3) rfl) rfl (v := .ref (b 38)) rfl dX11_country_84 ?_
                have h0 : k = 0 ∨ (pz (Sh.vz (F d.toNat)) k) < Sh.sz (F d.toNat) := by omega
                have hsb := fbO_at (by omega) hO h0
                have hsd := sbad_ok (by omega) hsb
                refine x_S_I C (As := [.ref (b (2 + 2 * d.toNat)), .int (iN ((pz (Sh.vz (F d.toNat)) k))), .ref (b 38)]) (rest := []) 3 gX11_country_X7_carryOut (c_X7_carryOut _ _ b F N (Ct.set_wa C1 (WA)) P hp sd hCw hF d ((pz (Sh.vz (F d.toNat)) k)) (by omega) (by omega) hsb hCd) rfl ok_X7_carryOut rfl rfl rfl rfl dX11_country_87 (fun r w1 hp => ?_)
                rcases hp with ⟨gb158, rfl, WAb158, rfl⟩ | ⟨gb158, rfl, rfl⟩
                · have gb158 : sok (Sh.vz (F d.toNat)) ((pz (Sh.vz (F d.toNat)) k)) C1 = 1 := gb158
                  refine Wx.eqW (ws' := (WX X.γ b F N (Ct.set_wa (snx (Sh.vz (F d.toNat)) ((pz (Sh.vz (F d.toNat)) k)) C1) (WAb158)) P hp sd)) (by rw [snx_wa]; try rfl) ?_
                  have hC2 : WFc (snx (Sh.vz (F d.toNat)) (pz (Sh.vz (F d.toNat)) k) C1) ∧ 0 ≤ Ct.dy (snx (Sh.vz (F d.toNat)) (pz (Sh.vz (F d.toNat)) k) C1) ∧ Ct.dy (snx (Sh.vz (F d.toNat)) (pz (Sh.vz (F d.toNat)) k) C1) ≤ 999 := snc_wf hCw hCd (dgz_let (by omega)) gb158
                  refine x_if_ne C 100 (by decide) (by decide) dX11_country_90 (fun _ => ?_) (fun z => absurd z (by decide))
                  refine x_iload C 0 rfl dX11_country_100 ?_
                  refine x_aload_n C 3 rfl rfl dX11_country_102 ?_
                  refine x_iload C 0 rfl dX11_country_103 ?_
                  refine x_S_I C (As := [.ref (b (2 + 2 * d.toNat)), .int (iN ((pz (Sh.vz (F d.toNat)) k)))]) (rest := [.int (iN ((pz (Sh.vz (F d.toNat)) k)))]) 2 gX11_country_X7_lengthFrom (MI.shr b F N (Ct.set_wa (snx (Sh.vz (F d.toNat)) ((pz (Sh.vz (F d.toNat)) k)) C1) (WAb158)) P hp sd d.toNat (show d.toNat < 8 by omega) (fun r => r = (dgz (Sh.vz (F d.toNat) ((pz (Sh.vz (F d.toNat)) k))) + 2)) (c_X7_lengthFrom _ _ (saD b d.toNat) (F d.toNat) (hF d.toNat (by omega)) ((pz (Sh.vz (F d.toNat)) k)) (by omega)) (fun r w h => ⟨h.1, h.2⟩)) rfl ok_X7_lengthFrom rfl rfl rfl rfl dX11_country_105 (fun r w1 hp => ?_)
                  obtain ⟨rfl, rfl⟩ := hp
                  show Wx X 0 0 (WX X.γ b F N (Ct.set_wa (snx (Sh.vz (F d.toNat)) ((pz (Sh.vz (F d.toNat)) k)) C1) (WAb158)) P hp sd) 108 [(6, .int (iN ((pz (Sh.vz (F d.toNat)) k)))), (5, .int (iN ((k : Int)))), (4, .int (iN (fb))), (3, .ref (b (2 + 2 * d.toNat))), (2, .int (iN (if 0 ≤ d ∧ d ≤ 7 then (if Sh.hd (F d.toNat) = 0 then -11 else if Sh.hd (F d.toNat) = 2 then 0 else -12) else -1))), (0, .ref (b 0)), (1, .int (iN (d)))] [.int (iN (dgz (Sh.vz (F d.toNat) ((pz (Sh.vz (F d.toNat)) k))) + 2)), .int (iN ((pz (Sh.vz (F d.toNat)) k)))]
                  have b159 := dgz_b (Sh.vz (F d.toNat) ((pz (Sh.vz (F d.toNat)) k)))
                  refine x_iadd C dX11_country_108 ?_
                  refine x_istore C [(6, .int (iN ((pz (Sh.vz (F d.toNat)) k) + (dgz (Sh.vz (F d.toNat) ((pz (Sh.vz (F d.toNat)) k))) + 2)))), (5, .int (iN ((k : Int)))), (4, .int (iN (fb))), (3, .ref (b (2 + 2 * d.toNat))), (2, .int (iN (if 0 ≤ d ∧ d ≤ 7 then (if Sh.hd (F d.toNat) = 0 then -11 else if Sh.hd (F d.toNat) = 2 then 0 else -12) else -1))), (0, .ref (b 0)), (1, .int (iN (d)))] (by decide) rfl dX11_country_109 ?_
                  refine x_iinc C 1 [(5, .int (iN ((k : Int) + 1))), (6, .int (iN ((pz (Sh.vz (F d.toNat)) k) + (dgz (Sh.vz (F d.toNat) ((pz (Sh.vz (F d.toNat)) k))) + 2)))), (4, .int (iN (fb))), (3, .ref (b (2 + 2 * d.toNat))), (2, .int (iN (if 0 ≤ d ∧ d ≤ 7 then (if Sh.hd (F d.toNat) = 0 then -11 else if Sh.hd (F d.toNat) = 2 then 0 else -12) else -1))), (0, .ref (b 0)), (1, .int (iN (d)))] rfl rfl (by decide) rfl dX11_country_111 ?_
                  refine x_goto C 64 (by decide) dX11_country_114 ?_
                  refine Wx.subL [1, 0, 2, 3, 4, 5, 6] rfl ?_
                  exact ih64 (k + 1) ((snx (Sh.vz (F d.toNat)) (pz (Sh.vz (F d.toNat)) k) C1)) (WAb158) _ _ (by omega) (by omega) (hC2.1) (hC2.2) (fbO_s (by omega) hO h0) (by show _ ≤ (pz (Sh.vz (F d.toNat)) k) + dgz ((Sh.vz (F d.toNat)) (pz (Sh.vz (F d.toNat)) k)) + 2; omega) (by have hr : _ = _ := hr; show _ = _; rw [hr, show 100 - k = (100 - (k + 1)) + 1 by omega, runS_go _ (by omega) gb158, show ((k + 1 : Nat) : Int) = (k : Int) + 1 by omega]; rfl) (by show (pz (Sh.vz (F d.toNat)) k) + dgz ((Sh.vz (F d.toNat)) (pz (Sh.vz (F d.toNat)) k)) + 2 = _; omega) (by omega)
                · have gb158 : sok (Sh.vz (F d.toNat)) ((pz (Sh.vz (F d.toNat)) k)) C1 = 0 := gb158
                  refine x_if_ne C 100 (by decide) (by decide) dX11_country_90 (fun z => absurd z (by decide)) (fun _ => ?_)
                  refine x_sipush C (-2000) (by decide) dX11_country_93 ?_
                  refine x_iload C 0 rfl dX11_country_96 ?_
                  refine x_isub C dX11_country_98 ?_
                  exact hret _ _ _ _ dX11_country_99 rfl ⟨(by have hr : _ = _ := hr; unfold q_country; unfold q_wr; rw [if_pos (show 0 ≤ d ∧ d ≤ 7 by omega), if_neg (show ¬ Sh.hd (F d.toNat) = 0 by omega), if_pos (show Sh.hd (F d.toNat) = 2 by omega)]; rw [if_neg (show ¬ Sh.so (F d.toNat) ≠ 0 by omega), hfb, if_neg (show ¬ 0 ≤ fb by omega), hr, show 100 - k = (99 - k) + 1 by omega, runS_no _ (by omega) gb158]), Or.inr ⟨(by omega), ⟨(Ct.wa N), (Ct.wa P), _, _, rfl⟩⟩⟩
        exact LP64 ((30 - (0)) + 1) (0) (N) (Ct.wa M) _ _ (by omega) (by omega) (hN) (h1_) (fun _ => by rw [show fbad _ _ (101 - 0) (pz _ 0) = fb from hfb]; omega) (by simp [pz]) (rfl) (rfl) (rfl)
      · refine x_sipush C (-1000) (by decide) dX11_country_40 ?_
        refine x_iload C 0 rfl dX11_country_43 ?_
        refine x_isub C dX11_country_45 ?_
        exact hret _ _ _ _ dX11_country_46 rfl ⟨(by unfold q_country; unfold q_wr; rw [if_pos (show 0 ≤ d ∧ d ≤ 7 by omega), if_neg (show ¬ Sh.hd (F d.toNat) = 0 by omega), if_pos (show Sh.hd (F d.toNat) = 2 by omega)]; rw [if_neg (show ¬ Sh.so (F d.toNat) ≠ 0 by omega), hfb, if_pos (show 0 ≤ fb by omega)]), Or.inr ⟨(by omega), ⟨(Ct.wa N), (Ct.wa P), _, _, rfl⟩⟩⟩
    · refine x_bipush C (-12) (by decide) dX11_country_26 ?_
      exact hret _ _ _ _ dX11_country_28 rfl ⟨(by unfold q_country; unfold q_wr; rw [if_pos (show 0 ≤ d ∧ d ≤ 7 by omega), if_neg (show ¬ Sh.hd (F d.toNat) = 0 by omega), if_pos (show Sh.hd (F d.toNat) = 2 by omega)]; rw [if_pos (show Sh.so (F d.toNat) ≠ 0 by omega)]), Or.inr ⟨(by omega), ⟨(Ct.wa N), (Ct.wa P), _, _, rfl⟩⟩⟩
  · refine x_iload_n C 0 rfl rfl dX11_country_10 ?_
    exact hret _ _ _ _ dX11_country_11 rfl ⟨(by unfold q_country q_wr; omega), Or.inr ⟨(by omega), ⟨(Ct.wa N), (Ct.wa P), _, _, rfl⟩⟩⟩
end HXHab
