section HXHaa
theorem sbad_or (u : Int → Int) {p : Int} (hp : 0 ≤ p) : sbad u p = -1 ∨ 0 ≤ sbad u p := by
  have h1 := dgz_b (u p)
  unfold sbad
  split
  · exact Or.inr hp
  · split
    · right; omega
    · split
      · right; omega
      · exact Or.inl rfl
/-- no fault of kind 1 from the k-th statement on -/
def fbO (u : Int → Int) (sz : Int) (k : Nat) : Prop := (k = 0 ∨ pz u k < sz) → fbad u sz (101 - k) (pz u k) = -1
theorem fbO_at {u : Int → Int} {sz : Int} {k : Nat} (hk : k ≤ 100) (h : fbO u sz k) (h0 : k = 0 ∨ pz u k < sz) : sbad u (pz u k) = -1 := by
  have e := h h0
  rcases sbad_or u (pz_0 (u := u) k) with q | q
  · exact q
  · rw [show 101 - k = (100 - k) + 1 by omega, fbad_bad _ rfl q] at e
    omega
theorem fbO_s {u : Int → Int} {sz : Int} {k : Nat} (hk : k ≤ 100) (h : fbO u sz k) (h0 : k = 0 ∨ pz u k < sz) : fbO u sz (k + 1) := by
  intro h1
  have hs := fbO_at hk h h0
  have e := h h0
  rw [show 101 - k = (101 - (k + 1)) + 1 by omega] at e
  simp only [fbad] at e
  have h1 : pz u (k + 1) < sz := by omega
  have h2 : pz u k + dgz (u (pz u k)) + 2 < sz := h1
  rw [hs, if_neg (by omega), if_pos h2] at e
  exact e
theorem snx_wa (u : Int → Int) (p : Int) (C : Ct) (x : Int → Int) : snx u p (Ct.set_wa C x) = Ct.set_wa (snx u p C) x := by
  unfold snx snc
  split
  · rfl
  · split
    · rfl
    · split
      · rfl
      · split
        · rfl
        · exact days_wa _ _ _
theorem ldz_q {u : Int → Int} (m : Nat) (p : Int) : (ldz u p m : Int) ≤ m := by
  have := ldz_le u m p
  omega
theorem fbad_b (u : Int → Int) (sz : Int) : ∀ (k : Nat) (p : Int), 0 ≤ p ∧ p ≤ 2000 - 10 * (k : Int) → -1 ≤ fbad u sz k p ∧ fbad u sz k p ≤ 2000
  | 0, p, _ => by simp [fbad]
  | k + 1, p, h => by
    have h1 := dgz_b (u p)
    have h2 := ldz_q (u := u) (dgz (u p)).toNat (p + 1)
    have hs : sbad u p ≤ p + 8 := by
      unfold sbad
      split
      · omega
      · split
        · omega
        · split <;> omega
    simp only [fbad]
    split
    · omega
    · split
      · exact fbad_b u sz k _ (by
          have : sbad u p = -1 ∨ 0 ≤ sbad u p := sbad_or u h.1
          by_cases q : dgz (u p) < 0
          · have e : sbad u p = p := if_pos q
            omega
          · omega)
      · omega
theorem ok_X7_carryOut : okY yX7_carryOut 3 := by decide +kernel
def rmX7_carryOut : Room := { frames := 6, cells := 0, slots := 0, locals := 130 }
set_option maxRecDepth 100000 in
set_option maxHeartbeats 400000 in
theorem c_X7_carryOut (l : Launch) (γ : GX) (b : Nat → Nat) (F : Nat → Sh) (N M P : Ct) (hp sd : Int) (hM : WFc M) (hF : ∀ t : Nat, t < 8 → WFs (F t)) (d p : Int) (h0_ : 0 ≤ d ∧ d ≤ 7) (h1_ : 0 ≤ p ∧ p ≤ 100) (hsb : sbad (Sh.vz (F d.toNat)) p = -1) (h2_ : 0 ≤ Ct.dy M ∧ Ct.dy M ≤ 999) : MI l γ yX7_carryOut wsX7_carryOut rmX7_carryOut [.ref (b (2 + 2 * d.toNat)), .int (iN (p)), .ref (b 38)] (WX γ b F N M P hp sd) (fun r_ w_ => (sok (Sh.vz (F d.toNat)) p M = 1 ∧ r_ = 1 ∧ ∃ x, w_ = WX γ b F N (Ct.set_wa (snx (Sh.vz (F d.toNat)) p M) x) P hp sd) ∨ (sok (Sh.vz (F d.toNat)) p M = 0 ∧ r_ = 0 ∧ w_ = WX γ b F N M P hp sd)) 0 0 := by
  refine MI.of (cc := cX7_carryOut) (maxL := 4) (rt := .boolean) RX7 rfl (by decide +kernel) rfl (Nat.le_of_ble_eq_true rfl) ?_
  intro X C hγ hl hnm hret
  subst hγ
  have hMn := WFc.n hM
  show Wx X 0 0 (WX X.γ b F N M P hp sd) 0 [(0, .ref (b (2 + 2 * d.toNat))), (1, .int (iN (p))), (2, .ref (b 38))] []
  refine x_iload_n C 1 rfl rfl dX7_carryOut_0 ?_
  refine x_iconst (v := 0) C dX7_carryOut_1 ?_
  refine x_iadd C dX7_carryOut_2 ?_
  refine x_istore_n C [(3, .int (iN (p + 1))), (0, .ref (b (2 + 2 * d.toNat))), (1, .int (iN (p))), (2, .ref (b 38))] rfl (by decide) rfl dX7_carryOut_3 ?_
  refine x_aload_n C 1 rfl rfl dX7_carryOut_4 ?_
  refine x_iload_n C 2 rfl rfl dX7_carryOut_5 ?_
  refine x_V_I C (As := [.int (iN (p))]) (rest := []) 1 (2 + 2 * d.toNat) (WX_so _ _ _ _ _ _ _ (show d.toNat < 8 by omega)) rfl gX7_carryOut_X5_valueOrZero rfl (MI.shr b F N M P hp sd d.toNat (show d.toNat < 8 by omega) (fun r => r = (Sh.vz (F d.toNat) p)) (c_X5_valueOrZero _ _ (saD b d.toNat) (F d.toNat) (hF d.toNat (by omega)) (p) (by omega)) (fun r w h => ⟨h.1, h.2⟩)) rfl ok_X5_valueOrZero rfl rfl rfl rfl dX7_carryOut_6 (fun r w1 hp => ?_)
  obtain ⟨rfl, rfl⟩ := hp
  show Wx X 0 0 (WX X.γ b F N M P hp sd) 9 [(3, .int (iN (p + 1))), (0, .ref (b (2 + 2 * d.toNat))), (1, .int (iN (p))), (2, .ref (b 38))] [.int (iN (Sh.vz (F d.toNat) p))]
  have b146 := WFs.vz (hF d.toNat (by omega)) (p)
  have hsd := sbad_ok (by omega) hsb
  have hlt : (Sh.vz (F d.toNat)) p = 103 ∨ (Sh.vz (F d.toNat)) p = 119 ∨ (Sh.vz (F d.toNat)) p = 109 ∨ (Sh.vz (F d.toNat)) p = 121 ∨ (Sh.vz (F d.toNat)) p = 100 := dgz_let (by omega)
  rcases (show (Sh.vz (F d.toNat) p) = 103 ∨ (Sh.vz (F d.toNat) p) = 109 ∨ (Sh.vz (F d.toNat) p) = 119 ∨ (Sh.vz (F d.toNat) p) = 121 ∨ ((Sh.vz (F d.toNat) p) ≠ 103 ∧ (Sh.vz (F d.toNat) p) ≠ 109 ∧ (Sh.vz (F d.toNat) p) ≠ 119 ∧ (Sh.vz (F d.toNat) p) ≠ 121) by omega) with s_9 | s_9 | s_9 | s_9 | s_9
  · refine x_lookup C 52 (43) (by omega) rfl (by rw [s_9]; rfl) (by decide) dX7_carryOut_9 ?_
    have hc : (Sh.vz (F d.toNat)) p = 103 := s_9
    have hL : ldz (Sh.vz (F d.toNat)) (p + 1) 4 = 4 := by have h := hsd.2; rw [hc] at h; exact h
    refine x_aload_n C 3 rfl rfl dX7_carryOut_52 ?_
    refine x_aload_n C 1 rfl rfl dX7_carryOut_53 ?_
    refine x_iload_n C 0 rfl rfl dX7_carryOut_54 ?_
    refine x_iconst (v := 0) C dX7_carryOut_55 ?_
    refine x_S_I C (As := [.ref (b (2 + 2 * d.toNat)), .int (iN (p + 1)), .int (iN (2))]) (rest := [.ref (b 38)]) 3 gX7_carryOut_X7_number (MI.shr b F N M P hp sd d.toNat (show d.toNat < 8 by omega) (fun r => r = numz (Sh.vz (F d.toNat)) (p + 1) 2) (c_X7_number _ _ (saD b d.toNat) (F d.toNat) (hF d.toNat (by omega)) (p + 1) (2) (by omega) (by omega)) (fun r w h => ⟨h.1, h.2⟩)) rfl ok_X7_number rfl rfl rfl rfl dX7_carryOut_56 (fun r w1 hp => ?_)
    obtain ⟨rfl, rfl⟩ := hp
    show Wx X 0 0 (WX X.γ b F N M P hp sd) 59 [(3, .int (iN (p + 1))), (0, .ref (b (2 + 2 * d.toNat))), (1, .int (iN (p))), (2, .ref (b 38))] [.int (iN (numz (Sh.vz (F d.toNat)) (p + 1) 2)), .ref (b 38)]
    have b147 := numz_d (ldz_mid (u := (Sh.vz (F d.toNat))) (p := p + 1) (q := p + 1) 0 2 2 (by omega) hL)
    refine x_aload_n C 1 rfl rfl dX7_carryOut_59 ?_
    refine x_iload_n C 0 rfl rfl dX7_carryOut_60 ?_
    refine x_iconst (v := 0) C dX7_carryOut_61 ?_
    refine x_iadd C dX7_carryOut_62 ?_
    refine x_iconst (v := 0) C dX7_carryOut_63 ?_
    refine x_S_I C (As := [.ref (b (2 + 2 * d.toNat)), .int (iN ((p + 1) + 2)), .int (iN (2))]) (rest := [.int (iN (numz (Sh.vz (F d.toNat)) (p + 1) 2)), .ref (b 38)]) 3 gX7_carryOut_X7_number (MI.shr b F N M P hp sd d.toNat (show d.toNat < 8 by omega) (fun r => r = numz (Sh.vz (F d.toNat)) ((p + 1) + 2) 2) (c_X7_number _ _ (saD b d.toNat) (F d.toNat) (hF d.toNat (by omega)) ((p + 1) + 2) (2) (by omega) (by omega)) (fun r w h => ⟨h.1, h.2⟩)) rfl ok_X7_number rfl rfl rfl rfl dX7_carryOut_64 (fun r w1 hp => ?_)
    obtain ⟨rfl, rfl⟩ := hp
    show Wx X 0 0 (WX X.γ b F N M P hp sd) 67 [(3, .int (iN (p + 1))), (0, .ref (b (2 + 2 * d.toNat))), (1, .int (iN (p))), (2, .ref (b 38))] [.int (iN (numz (Sh.vz (F d.toNat)) ((p + 1) + 2) 2)), .int (iN (numz (Sh.vz (F d.toNat)) (p + 1) 2)), .ref (b 38)]
    have b148 := numz_d (ldz_mid (u := (Sh.vz (F d.toNat))) (p := p + 1) (q := (p + 1) + 2) 2 2 0 (by omega) hL)
    refine x_V_I C (As := [.int (iN (numz (Sh.vz (F d.toNat)) (p + 1) 2)), .int (iN (numz (Sh.vz (F d.toNat)) ((p + 1) + 2) 2))]) (rest := []) 2 38 rfl rfl gX7_carryOut_X1_setHeight rfl (MI.fM b F N M P hp sd (fun r Z => (((0 ≤ (numz (Sh.vz (F d.toNat)) (p + 1) 2) ∧ (numz (Sh.vz (F d.toNat)) (p + 1) 2) ≤ 14) ∧ 0 ≤ (numz (Sh.vz (F d.toNat)) ((p + 1) + 2) 2) ∧ (numz (Sh.vz (F d.toNat)) ((p + 1) + 2) 2) ≤ 20) ∧ r = 1 ∧ (Ct.set_h M (upz (Ct.h M) (numz (Sh.vz (F d.toNat)) (p + 1) 2) (numz (Sh.vz (F d.toNat)) ((p + 1) + 2) 2))) = Z) ∨ (¬ ((0 ≤ (numz (Sh.vz (F d.toNat)) (p + 1) 2) ∧ (numz (Sh.vz (F d.toNat)) (p + 1) 2) ≤ 14) ∧ 0 ≤ (numz (Sh.vz (F d.toNat)) ((p + 1) + 2) 2) ∧ (numz (Sh.vz (F d.toNat)) ((p + 1) + 2) 2) ≤ 20) ∧ r = 0 ∧ M = Z)) (c_X1_setHeight _ _ (adM b) M hM (numz (Sh.vz (F d.toNat)) (p + 1) 2) (numz (Sh.vz (F d.toNat)) ((p + 1) + 2) 2) (by omega) (by omega)) (fun r w h => h.elim (fun h => ⟨_, Or.inl ⟨h.1, h.2.1, rfl⟩, h.2.2⟩) (fun h => ⟨_, Or.inr ⟨h.1, h.2.1, rfl⟩, h.2.2⟩))) rfl ok_X1_setHeight rfl rfl rfl rfl dX7_carryOut_67 (fun r w1 hp => ?_)
    rcases hp with ⟨_, (⟨hp1, rfl, rfl⟩ | ⟨hp1, rfl, rfl⟩), rfl⟩
    · exact hret _ _ _ _ dX7_carryOut_70 (nar_z (by decide)) (Or.inl ⟨(by unfold sok; rw [hc, sck_g]; exact if_pos (show (0 ≤ numz (Sh.vz (F d.toNat)) (p + 1) 2 ∧ numz (Sh.vz (F d.toNat)) (p + 1) 2 ≤ 14) ∧ 0 ≤ numz (Sh.vz (F d.toNat)) (p + 1 + 2) 2 ∧ numz (Sh.vz (F d.toNat)) (p + 1 + 2) 2 ≤ 20 by omega)), rfl, (Ct.wa M), (by unfold snx; rw [hc, snc_g]; try rfl)⟩)
    · exact hret _ _ _ _ dX7_carryOut_70 (nar_z (by decide)) (Or.inr ⟨(by unfold sok; rw [hc, sck_g]; exact if_neg (show ¬ ((0 ≤ numz (Sh.vz (F d.toNat)) (p + 1) 2 ∧ numz (Sh.vz (F d.toNat)) (p + 1) 2 ≤ 14) ∧ 0 ≤ numz (Sh.vz (F d.toNat)) (p + 1 + 2) 2 ∧ numz (Sh.vz (F d.toNat)) (p + 1 + 2) 2 ≤ 20) by omega)), rfl, rfl⟩)
  · refine x_lookup C 106 (97) (by omega) rfl (by rw [s_9]; rfl) (by decide) dX7_carryOut_9 ?_
    have hc : (Sh.vz (F d.toNat)) p = 109 := s_9
    have hL : ldz (Sh.vz (F d.toNat)) (p + 1) 3 = 3 := by have h := hsd.2; rw [hc] at h; exact h
    refine x_aload_n C 3 rfl rfl dX7_carryOut_106 ?_
    refine x_aload_n C 1 rfl rfl dX7_carryOut_107 ?_
    refine x_iload_n C 0 rfl rfl dX7_carryOut_108 ?_
    refine x_iconst (v := 0) C dX7_carryOut_109 ?_
    refine x_S_I C (As := [.ref (b (2 + 2 * d.toNat)), .int (iN (p + 1)), .int (iN (1))]) (rest := [.ref (b 38)]) 3 gX7_carryOut_X7_number (MI.shr b F N M P hp sd d.toNat (show d.toNat < 8 by omega) (fun r => r = numz (Sh.vz (F d.toNat)) (p + 1) 1) (c_X7_number _ _ (saD b d.toNat) (F d.toNat) (hF d.toNat (by omega)) (p + 1) (1) (by omega) (by omega)) (fun r w h => ⟨h.1, h.2⟩)) rfl ok_X7_number rfl rfl rfl rfl dX7_carryOut_110 (fun r w1 hp => ?_)
    obtain ⟨rfl, rfl⟩ := hp
    show Wx X 0 0 (WX X.γ b F N M P hp sd) 113 [(3, .int (iN (p + 1))), (0, .ref (b (2 + 2 * d.toNat))), (1, .int (iN (p))), (2, .ref (b 38))] [.int (iN (numz (Sh.vz (F d.toNat)) (p + 1) 1)), .ref (b 38)]
    have b149 := numz_d (ldz_mid (u := (Sh.vz (F d.toNat))) (p := p + 1) (q := p + 1) 0 1 2 (by omega) hL)
    refine x_aload_n C 1 rfl rfl dX7_carryOut_113 ?_
    refine x_iload_n C 0 rfl rfl dX7_carryOut_114 ?_
    refine x_iconst (v := 0) C dX7_carryOut_115 ?_
    refine x_iadd C dX7_carryOut_116 ?_
    refine x_iconst (v := 0) C dX7_carryOut_117 ?_
    refine x_S_I C (As := [.ref (b (2 + 2 * d.toNat)), .int (iN ((p + 1) + 1)), .int (iN (2))]) (rest := [.int (iN (numz (Sh.vz (F d.toNat)) (p + 1) 1)), .ref (b 38)]) 3 gX7_carryOut_X7_number (MI.shr b F N M P hp sd d.toNat (show d.toNat < 8 by omega) (fun r => r = numz (Sh.vz (F d.toNat)) ((p + 1) + 1) 2) (c_X7_number _ _ (saD b d.toNat) (F d.toNat) (hF d.toNat (by omega)) ((p + 1) + 1) (2) (by omega) (by omega)) (fun r w h => ⟨h.1, h.2⟩)) rfl ok_X7_number rfl rfl rfl rfl dX7_carryOut_118 (fun r w1 hp => ?_)
    obtain ⟨rfl, rfl⟩ := hp
    show Wx X 0 0 (WX X.γ b F N M P hp sd) 121 [(3, .int (iN (p + 1))), (0, .ref (b (2 + 2 * d.toNat))), (1, .int (iN (p))), (2, .ref (b 38))] [.int (iN (numz (Sh.vz (F d.toNat)) ((p + 1) + 1) 2)), .int (iN (numz (Sh.vz (F d.toNat)) (p + 1) 1)), .ref (b 38)]
    have b150 := numz_d (ldz_mid (u := (Sh.vz (F d.toNat))) (p := p + 1) (q := (p + 1) + 1) 1 2 0 (by omega) hL)
    refine x_V_I C (As := [.int (iN (numz (Sh.vz (F d.toNat)) (p + 1) 1)), .int (iN (numz (Sh.vz (F d.toNat)) ((p + 1) + 1) 2))]) (rest := []) 2 38 rfl rfl gX7_carryOut_X1_setPlace rfl (MI.fM b F N M P hp sd (fun r Z => (((0 ≤ (numz (Sh.vz (F d.toNat)) (p + 1) 1) ∧ (numz (Sh.vz (F d.toNat)) (p + 1) 1) ≤ Ct.n M - 1) ∧ 0 ≤ (numz (Sh.vz (F d.toNat)) ((p + 1) + 1) 2) ∧ (numz (Sh.vz (F d.toNat)) ((p + 1) + 1) 2) ≤ 14) ∧ r = 1 ∧ (Ct.set_po M (upz (Ct.po M) (numz (Sh.vz (F d.toNat)) (p + 1) 1) (numz (Sh.vz (F d.toNat)) ((p + 1) + 1) 2))) = Z) ∨ (¬ ((0 ≤ (numz (Sh.vz (F d.toNat)) (p + 1) 1) ∧ (numz (Sh.vz (F d.toNat)) (p + 1) 1) ≤ Ct.n M - 1) ∧ 0 ≤ (numz (Sh.vz (F d.toNat)) ((p + 1) + 1) 2) ∧ (numz (Sh.vz (F d.toNat)) ((p + 1) + 1) 2) ≤ 14) ∧ r = 0 ∧ M = Z)) (c_X1_setPlace _ _ (adM b) M hM (numz (Sh.vz (F d.toNat)) (p + 1) 1) (numz (Sh.vz (F d.toNat)) ((p + 1) + 1) 2) (by omega) (by omega)) (fun r w h => h.elim (fun h => ⟨_, Or.inl ⟨h.1, h.2.1, rfl⟩, h.2.2⟩) (fun h => ⟨_, Or.inr ⟨h.1, h.2.1, rfl⟩, h.2.2⟩))) rfl ok_X1_setPlace rfl rfl rfl rfl dX7_carryOut_121 (fun r w1 hp => ?_)
    rcases hp with ⟨_, (⟨hp1, rfl, rfl⟩ | ⟨hp1, rfl, rfl⟩), rfl⟩
    · exact hret _ _ _ _ dX7_carryOut_124 (nar_z (by decide)) (Or.inl ⟨(by unfold sok; rw [hc, sck_m]; exact if_pos (show (0 ≤ numz (Sh.vz (F d.toNat)) (p + 1) 1 ∧ numz (Sh.vz (F d.toNat)) (p + 1) 1 ≤ Ct.n M - 1) ∧ 0 ≤ numz (Sh.vz (F d.toNat)) (p + 1 + 1) 2 ∧ numz (Sh.vz (F d.toNat)) (p + 1 + 1) 2 ≤ 14 by omega)), rfl, (Ct.wa M), (by unfold snx; rw [hc, snc_m]; try rfl)⟩)
    · exact hret _ _ _ _ dX7_carryOut_124 (nar_z (by decide)) (Or.inr ⟨(by unfold sok; rw [hc, sck_m]; exact if_neg (show ¬ ((0 ≤ numz (Sh.vz (F d.toNat)) (p + 1) 1 ∧ numz (Sh.vz (F d.toNat)) (p + 1) 1 ≤ Ct.n M - 1) ∧ 0 ≤ numz (Sh.vz (F d.toNat)) (p + 1 + 1) 2 ∧ numz (Sh.vz (F d.toNat)) (p + 1 + 1) 2 ≤ 14) by omega)), rfl, rfl⟩)
  · refine x_lookup C 71 (62) (by omega) rfl (by rw [s_9]; rfl) (by decide) dX7_carryOut_9 ?_
    have hc : (Sh.vz (F d.toNat)) p = 119 := s_9
    have hL : ldz (Sh.vz (F d.toNat)) (p + 1) 7 = 7 := by have h := hsd.2; rw [hc] at h; exact h
    refine x_aload_n C 3 rfl rfl dX7_carryOut_71 ?_
    refine x_aload_n C 1 rfl rfl dX7_carryOut_72 ?_
    refine x_iload_n C 0 rfl rfl dX7_carryOut_73 ?_
    refine x_iconst (v := 0) C dX7_carryOut_74 ?_
    refine x_S_I C (As := [.ref (b (2 + 2 * d.toNat)), .int (iN (p + 1)), .int (iN (1))]) (rest := [.ref (b 38)]) 3 gX7_carryOut_X7_number (MI.shr b F N M P hp sd d.toNat (show d.toNat < 8 by omega) (fun r => r = numz (Sh.vz (F d.toNat)) (p + 1) 1) (c_X7_number _ _ (saD b d.toNat) (F d.toNat) (hF d.toNat (by omega)) (p + 1) (1) (by omega) (by omega)) (fun r w h => ⟨h.1, h.2⟩)) rfl ok_X7_number rfl rfl rfl rfl dX7_carryOut_75 (fun r w1 hp => ?_)
    obtain ⟨rfl, rfl⟩ := hp
    show Wx X 0 0 (WX X.γ b F N M P hp sd) 78 [(3, .int (iN (p + 1))), (0, .ref (b (2 + 2 * d.toNat))), (1, .int (iN (p))), (2, .ref (b 38))] [.int (iN (numz (Sh.vz (F d.toNat)) (p + 1) 1)), .ref (b 38)]
    have b151 := numz_d (ldz_mid (u := (Sh.vz (F d.toNat))) (p := p + 1) (q := p + 1) 0 1 6 (by omega) hL)
    refine x_aload_n C 1 rfl rfl dX7_carryOut_78 ?_
    refine x_iload_n C 0 rfl rfl dX7_carryOut_79 ?_
    refine x_iconst (v := 0) C dX7_carryOut_80 ?_
    refine x_iadd C dX7_carryOut_81 ?_
    refine x_iconst (v := 0) C dX7_carryOut_82 ?_
    refine x_S_I C (As := [.ref (b (2 + 2 * d.toNat)), .int (iN ((p + 1) + 1)), .int (iN (1))]) (rest := [.int (iN (numz (Sh.vz (F d.toNat)) (p + 1) 1)), .ref (b 38)]) 3 gX7_carryOut_X7_number (MI.shr b F N M P hp sd d.toNat (show d.toNat < 8 by omega) (fun r => r = numz (Sh.vz (F d.toNat)) ((p + 1) + 1) 1) (c_X7_number _ _ (saD b d.toNat) (F d.toNat) (hF d.toNat (by omega)) ((p + 1) + 1) (1) (by omega) (by omega)) (fun r w h => ⟨h.1, h.2⟩)) rfl ok_X7_number rfl rfl rfl rfl dX7_carryOut_83 (fun r w1 hp => ?_)
    obtain ⟨rfl, rfl⟩ := hp
    show Wx X 0 0 (WX X.γ b F N M P hp sd) 86 [(3, .int (iN (p + 1))), (0, .ref (b (2 + 2 * d.toNat))), (1, .int (iN (p))), (2, .ref (b 38))] [.int (iN (numz (Sh.vz (F d.toNat)) ((p + 1) + 1) 1)), .int (iN (numz (Sh.vz (F d.toNat)) (p + 1) 1)), .ref (b 38)]
    have b152 := numz_d (ldz_mid (u := (Sh.vz (F d.toNat))) (p := p + 1) (q := (p + 1) + 1) 1 1 5 (by omega) hL)
    refine x_aload_n C 1 rfl rfl dX7_carryOut_86 ?_
    refine x_iload_n C 0 rfl rfl dX7_carryOut_87 ?_
    refine x_iconst (v := 0) C dX7_carryOut_88 ?_
    refine x_iadd C dX7_carryOut_89 ?_
    refine x_iconst (v := 0) C dX7_carryOut_90 ?_
    refine x_S_I C (As := [.ref (b (2 + 2 * d.toNat)), .int (iN ((p + 1) + 2)), .int (iN (3))]) (rest := [.int (iN (numz (Sh.vz (F d.toNat)) ((p + 1) + 1) 1)), .int (iN (numz (Sh.vz (F d.toNat)) (p + 1) 1)), .ref (b 38)]) 3 gX7_carryOut_X7_number (MI.shr b F N M P hp sd d.toNat (show d.toNat < 8 by omega) (fun r => r = numz (Sh.vz (F d.toNat)) ((p + 1) + 2) 3) (c_X7_number _ _ (saD b d.toNat) (F d.toNat) (hF d.toNat (by omega)) ((p + 1) + 2) (3) (by omega) (by omega)) (fun r w h => ⟨h.1, h.2⟩)) rfl ok_X7_number rfl rfl rfl rfl dX7_carryOut_91 (fun r w1 hp => ?_)
    obtain ⟨rfl, rfl⟩ := hp
    show Wx X 0 0 (WX X.γ b F N M P hp sd) 94 [(3, .int (iN (p + 1))), (0, .ref (b (2 + 2 * d.toNat))), (1, .int (iN (p))), (2, .ref (b 38))] [.int (iN (numz (Sh.vz (F d.toNat)) ((p + 1) + 2) 3)), .int (iN (numz (Sh.vz (F d.toNat)) ((p + 1) + 1) 1)), .int (iN (numz (Sh.vz (F d.toNat)) (p + 1) 1)), .ref (b 38)]
    have b153 := numz_d (ldz_mid (u := (Sh.vz (F d.toNat))) (p := p + 1) (q := (p + 1) + 2) 2 3 2 (by omega) hL)
    refine x_aload_n C 1 rfl rfl dX7_carryOut_94 ?_
    refine x_iload_n C 0 rfl rfl dX7_carryOut_95 ?_
    refine x_iconst (v := 0) C dX7_carryOut_96 ?_
    refine x_iadd C dX7_carryOut_97 ?_
    refine x_iconst (v := 0) C dX7_carryOut_98 ?_
    refine x_S_I C (As := [.ref (b (2 + 2 * d.toNat)), .int (iN ((p + 1) + 5)), .int (iN (2))]) (rest := [.int (iN (numz (Sh.vz (F d.toNat)) ((p + 1) + 2) 3)), .int (iN (numz (Sh.vz (F d.toNat)) ((p + 1) + 1) 1)), .int (iN (numz (Sh.vz (F d.toNat)) (p + 1) 1)), .ref (b 38)]) 3 gX7_carryOut_X7_number (MI.shr b F N M P hp sd d.toNat (show d.toNat < 8 by omega) (fun r => r = numz (Sh.vz (F d.toNat)) ((p + 1) + 5) 2) (c_X7_number _ _ (saD b d.toNat) (F d.toNat) (hF d.toNat (by omega)) ((p + 1) + 5) (2) (by omega) (by omega)) (fun r w h => ⟨h.1, h.2⟩)) rfl ok_X7_number rfl rfl rfl rfl dX7_carryOut_99 (fun r w1 hp => ?_)
    obtain ⟨rfl, rfl⟩ := hp
    show Wx X 0 0 (WX X.γ b F N M P hp sd) 102 [(3, .int (iN (p + 1))), (0, .ref (b (2 + 2 * d.toNat))), (1, .int (iN (p))), (2, .ref (b 38))] [.int (iN (numz (Sh.vz (F d.toNat)) ((p + 1) + 5) 2)), .int (iN (numz (Sh.vz (F d.toNat)) ((p + 1) + 2) 3)), .int (iN (numz (Sh.vz (F d.toNat)) ((p + 1) + 1) 1)), .int (iN (numz (Sh.vz (F d.toNat)) (p + 1) 1)), .ref (b 38)]
    have b154 := numz_d (ldz_mid (u := (Sh.vz (F d.toNat))) (p := p + 1) (q := (p + 1) + 5) 5 2 0 (by omega) hL)
    refine x_V_I C (As := [.int (iN (numz (Sh.vz (F d.toNat)) (p + 1) 1)), .int (iN (numz (Sh.vz (F d.toNat)) ((p + 1) + 1) 1)), .int (iN (numz (Sh.vz (F d.toNat)) ((p + 1) + 2) 3)), .int (iN (numz (Sh.vz (F d.toNat)) ((p + 1) + 5) 2))]) (rest := []) 4 38 rfl rfl gX7_carryOut_X1_addWalker rfl (MI.kM b F N M P hp sd (fun r Z => ((Ct.n M < 6 ∧ (0 ≤ (numz (Sh.vz (F d.toNat)) ((p + 1) + 5) 2) ∧ (numz (Sh.vz (F d.toNat)) ((p + 1) + 5) 2) ≤ 14) ∧ (0 ≤ (numz (Sh.vz (F d.toNat)) (p + 1) 1) ∧ (numz (Sh.vz (F d.toNat)) (p + 1) 1) ≤ 7) ∧ (0 ≤ (numz (Sh.vz (F d.toNat)) ((p + 1) + 1) 1) ∧ (numz (Sh.vz (F d.toNat)) ((p + 1) + 1) 1) ≤ 9) ∧ 0 ≤ (numz (Sh.vz (F d.toNat)) ((p + 1) + 2) 3) ∧ (numz (Sh.vz (F d.toNat)) ((p + 1) + 2) 3) ≤ 120) ∧ r = 1 ∧ (Ct.set_sr (Ct.set_sp (Ct.set_pr (Ct.set_wy (Ct.set_po (Ct.set_ag (Ct.set_fg (Ct.set_kd (Ct.set_n M ((Ct.n M) + 1)) (upz (Ct.kd M) (Ct.n M) (numz (Sh.vz (F d.toNat)) (p + 1) 1))) (upz (Ct.fg M) (Ct.n M) (numz (Sh.vz (F d.toNat)) ((p + 1) + 1) 1))) (upz (Ct.ag M) (Ct.n M) (numz (Sh.vz (F d.toNat)) ((p + 1) + 2) 3))) (upz (Ct.po M) (Ct.n M) (numz (Sh.vz (F d.toNat)) ((p + 1) + 5) 2))) (upz (Ct.wy M) (Ct.n M) 0)) (upz (Ct.pr M) (Ct.n M) (prF (numz (Sh.vz (F d.toNat)) (p + 1) 1) (numz (Sh.vz (F d.toNat)) ((p + 1) + 1) 1) (numz (Sh.vz (F d.toNat)) ((p + 1) + 2) 3)))) (upz (Ct.sp M) (Ct.n M) (spF (numz (Sh.vz (F d.toNat)) (p + 1) 1)))) (upz (Ct.sr M) (Ct.n M) (srF (numz (Sh.vz (F d.toNat)) (p + 1) 1) (numz (Sh.vz (F d.toNat)) ((p + 1) + 1) 1)))) = Z) ∨ (¬ (Ct.n M < 6 ∧ (0 ≤ (numz (Sh.vz (F d.toNat)) ((p + 1) + 5) 2) ∧ (numz (Sh.vz (F d.toNat)) ((p + 1) + 5) 2) ≤ 14) ∧ (0 ≤ (numz (Sh.vz (F d.toNat)) (p + 1) 1) ∧ (numz (Sh.vz (F d.toNat)) (p + 1) 1) ≤ 7) ∧ (0 ≤ (numz (Sh.vz (F d.toNat)) ((p + 1) + 1) 1) ∧ (numz (Sh.vz (F d.toNat)) ((p + 1) + 1) 1) ≤ 9) ∧ 0 ≤ (numz (Sh.vz (F d.toNat)) ((p + 1) + 2) 3) ∧ (numz (Sh.vz (F d.toNat)) ((p + 1) + 2) 3) ≤ 120) ∧ r = 0 ∧ M = Z)) (c_X1_addWalker _ _ (adM b) M hM (numz (Sh.vz (F d.toNat)) (p + 1) 1) (numz (Sh.vz (F d.toNat)) ((p + 1) + 1) 1) (numz (Sh.vz (F d.toNat)) ((p + 1) + 2) 3) (numz (Sh.vz (F d.toNat)) ((p + 1) + 5) 2) (by omega) (by omega) (by omega) (by omega)) (fun r w h => h.elim (fun h => ⟨_, Or.inl ⟨h.1, h.2.1, rfl⟩, h.2.2⟩) (fun h => ⟨_, Or.inr ⟨h.1, h.2.1, rfl⟩, h.2.2⟩))) rfl ok_X1_addWalker rfl rfl rfl rfl dX7_carryOut_102 (fun r w1 hp => ?_)
    rcases hp with ⟨_, (⟨hp1, rfl, rfl⟩ | ⟨hp1, rfl, rfl⟩), rfl⟩
    · exact hret _ _ _ _ dX7_carryOut_105 (nar_z (by decide)) (Or.inl ⟨(by unfold sok; rw [hc, sck_w]; exact if_pos (show (0 ≤ numz (Sh.vz (F d.toNat)) (p + 1) 1 ∧ numz (Sh.vz (F d.toNat)) (p + 1) 1 ≤ 7) ∧ (0 ≤ numz (Sh.vz (F d.toNat)) (p + 1 + 1) 1 ∧ numz (Sh.vz (F d.toNat)) (p + 1 + 1) 1 ≤ 9) ∧ (0 ≤ numz (Sh.vz (F d.toNat)) (p + 1 + 2) 3 ∧ numz (Sh.vz (F d.toNat)) (p + 1 + 2) 3 ≤ 120) ∧ (0 ≤ numz (Sh.vz (F d.toNat)) (p + 1 + 5) 2 ∧ numz (Sh.vz (F d.toNat)) (p + 1 + 5) 2 ≤ 14) ∧ Ct.n M < 6 by omega)), rfl, (Ct.wa M), (by unfold snx; rw [hc, snc_w]; try rfl)⟩)
    · exact hret _ _ _ _ dX7_carryOut_105 (nar_z (by decide)) (Or.inr ⟨(by unfold sok; rw [hc, sck_w]; exact if_neg (show ¬ ((0 ≤ numz (Sh.vz (F d.toNat)) (p + 1) 1 ∧ numz (Sh.vz (F d.toNat)) (p + 1) 1 ≤ 7) ∧ (0 ≤ numz (Sh.vz (F d.toNat)) (p + 1 + 1) 1 ∧ numz (Sh.vz (F d.toNat)) (p + 1 + 1) 1 ≤ 9) ∧ (0 ≤ numz (Sh.vz (F d.toNat)) (p + 1 + 2) 3 ∧ numz (Sh.vz (F d.toNat)) (p + 1 + 2) 3 ≤ 120) ∧ (0 ≤ numz (Sh.vz (F d.toNat)) (p + 1 + 5) 2 ∧ numz (Sh.vz (F d.toNat)) (p + 1 + 5) 2 ≤ 14) ∧ Ct.n M < 6) by omega)), rfl, rfl⟩)
  · refine x_lookup C 125 (116) (by omega) rfl (by rw [s_9]; rfl) (by decide) dX7_carryOut_9 ?_
    have hc : (Sh.vz (F d.toNat)) p = 121 := s_9
    have hL : ldz (Sh.vz (F d.toNat)) (p + 1) 2 = 2 := by have h := hsd.2; rw [hc] at h; exact h
    refine x_aload_n C 3 rfl rfl dX7_carryOut_125 ?_
    refine x_aload_n C 1 rfl rfl dX7_carryOut_126 ?_
    refine x_iload_n C 0 rfl rfl dX7_carryOut_127 ?_
    refine x_iconst (v := 0) C dX7_carryOut_128 ?_
    refine x_S_I C (As := [.ref (b (2 + 2 * d.toNat)), .int (iN (p + 1)), .int (iN (1))]) (rest := [.ref (b 38)]) 3 gX7_carryOut_X7_number (MI.shr b F N M P hp sd d.toNat (show d.toNat < 8 by omega) (fun r => r = numz (Sh.vz (F d.toNat)) (p + 1) 1) (c_X7_number _ _ (saD b d.toNat) (F d.toNat) (hF d.toNat (by omega)) (p + 1) (1) (by omega) (by omega)) (fun r w h => ⟨h.1, h.2⟩)) rfl ok_X7_number rfl rfl rfl rfl dX7_carryOut_129 (fun r w1 hp => ?_)
    obtain ⟨rfl, rfl⟩ := hp
    show Wx X 0 0 (WX X.γ b F N M P hp sd) 132 [(3, .int (iN (p + 1))), (0, .ref (b (2 + 2 * d.toNat))), (1, .int (iN (p))), (2, .ref (b 38))] [.int (iN (numz (Sh.vz (F d.toNat)) (p + 1) 1)), .ref (b 38)]
    have b155 := numz_d (ldz_mid (u := (Sh.vz (F d.toNat))) (p := p + 1) (q := p + 1) 0 1 1 (by omega) hL)
    refine x_aload_n C 1 rfl rfl dX7_carryOut_132 ?_
    refine x_iload_n C 0 rfl rfl dX7_carryOut_133 ?_
    refine x_iconst (v := 0) C dX7_carryOut_134 ?_
    refine x_iadd C dX7_carryOut_135 ?_
    refine x_iconst (v := 0) C dX7_carryOut_136 ?_
    refine x_S_I C (As := [.ref (b (2 + 2 * d.toNat)), .int (iN ((p + 1) + 1)), .int (iN (1))]) (rest := [.int (iN (numz (Sh.vz (F d.toNat)) (p + 1) 1)), .ref (b 38)]) 3 gX7_carryOut_X7_number (MI.shr b F N M P hp sd d.toNat (show d.toNat < 8 by omega) (fun r => r = numz (Sh.vz (F d.toNat)) ((p + 1) + 1) 1) (c_X7_number _ _ (saD b d.toNat) (F d.toNat) (hF d.toNat (by omega)) ((p + 1) + 1) (1) (by omega) (by omega)) (fun r w h => ⟨h.1, h.2⟩)) rfl ok_X7_number rfl rfl rfl rfl dX7_carryOut_137 (fun r w1 hp => ?_)
    obtain ⟨rfl, rfl⟩ := hp
    show Wx X 0 0 (WX X.γ b F N M P hp sd) 140 [(3, .int (iN (p + 1))), (0, .ref (b (2 + 2 * d.toNat))), (1, .int (iN (p))), (2, .ref (b 38))] [.int (iN (numz (Sh.vz (F d.toNat)) ((p + 1) + 1) 1)), .int (iN (numz (Sh.vz (F d.toNat)) (p + 1) 1)), .ref (b 38)]
    have b156 := numz_d (ldz_mid (u := (Sh.vz (F d.toNat))) (p := p + 1) (q := (p + 1) + 1) 1 1 0 (by omega) hL)
    refine x_V_I C (As := [.int (iN (numz (Sh.vz (F d.toNat)) (p + 1) 1)), .int (iN (numz (Sh.vz (F d.toNat)) ((p + 1) + 1) 1))]) (rest := []) 2 38 rfl rfl gX7_carryOut_X1_setWay rfl (MI.fM b F N M P hp sd (fun r Z => (((0 ≤ (numz (Sh.vz (F d.toNat)) (p + 1) 1) ∧ (numz (Sh.vz (F d.toNat)) (p + 1) 1) ≤ Ct.n M - 1) ∧ 0 ≤ (numz (Sh.vz (F d.toNat)) ((p + 1) + 1) 1) ∧ (numz (Sh.vz (F d.toNat)) ((p + 1) + 1) 1) ≤ 2) ∧ r = 1 ∧ (Ct.set_wy M (upz (Ct.wy M) (numz (Sh.vz (F d.toNat)) (p + 1) 1) (if (numz (Sh.vz (F d.toNat)) ((p + 1) + 1) 1) = 1 then -1 else (numz (Sh.vz (F d.toNat)) ((p + 1) + 1) 1) / 2))) = Z) ∨ (¬ ((0 ≤ (numz (Sh.vz (F d.toNat)) (p + 1) 1) ∧ (numz (Sh.vz (F d.toNat)) (p + 1) 1) ≤ Ct.n M - 1) ∧ 0 ≤ (numz (Sh.vz (F d.toNat)) ((p + 1) + 1) 1) ∧ (numz (Sh.vz (F d.toNat)) ((p + 1) + 1) 1) ≤ 2) ∧ r = 0 ∧ M = Z)) (c_X1_setWay _ _ (adM b) M hM (numz (Sh.vz (F d.toNat)) (p + 1) 1) (numz (Sh.vz (F d.toNat)) ((p + 1) + 1) 1) (by omega) (by omega)) (fun r w h => h.elim (fun h => ⟨_, Or.inl ⟨h.1, h.2.1, rfl⟩, h.2.2⟩) (fun h => ⟨_, Or.inr ⟨h.1, h.2.1, rfl⟩, h.2.2⟩))) rfl ok_X1_setWay rfl rfl rfl rfl dX7_carryOut_140 (fun r w1 hp => ?_)
    rcases hp with ⟨_, (⟨hp1, rfl, rfl⟩ | ⟨hp1, rfl, rfl⟩), rfl⟩
    · exact hret _ _ _ _ dX7_carryOut_143 (nar_z (by decide)) (Or.inl ⟨(by unfold sok; rw [hc, sck_y]; exact if_pos (show (0 ≤ numz (Sh.vz (F d.toNat)) (p + 1) 1 ∧ numz (Sh.vz (F d.toNat)) (p + 1) 1 ≤ Ct.n M - 1) ∧ 0 ≤ numz (Sh.vz (F d.toNat)) (p + 1 + 1) 1 ∧ numz (Sh.vz (F d.toNat)) (p + 1 + 1) 1 ≤ 2 by omega)), rfl, (Ct.wa M), (by unfold snx; rw [hc, snc_y]; rw [show (if numz (Sh.vz (F d.toNat)) (p + 1 + 1) 1 = 1 then -1 else numz (Sh.vz (F d.toNat)) (p + 1 + 1) 1 / 2) = wyz (numz (Sh.vz (F d.toNat)) (p + 1 + 1) 1) by unfold wyz; omega]; try rfl)⟩)
    · exact hret _ _ _ _ dX7_carryOut_143 (nar_z (by decide)) (Or.inr ⟨(by unfold sok; rw [hc, sck_y]; exact if_neg (show ¬ ((0 ≤ numz (Sh.vz (F d.toNat)) (p + 1) 1 ∧ numz (Sh.vz (F d.toNat)) (p + 1) 1 ≤ Ct.n M - 1) ∧ 0 ≤ numz (Sh.vz (F d.toNat)) (p + 1 + 1) 1 ∧ numz (Sh.vz (F d.toNat)) (p + 1 + 1) 1 ≤ 2) by omega)), rfl, rfl⟩)
  · refine x_lookup C 144 (135) (by omega) rfl (by rw [Op.lookupswitch.offset_cons, if_neg (by omega)]; rw [Op.lookupswitch.offset_cons, if_neg (by omega)]; rw [Op.lookupswitch.offset_cons, if_neg (by omega)]; rw [Op.lookupswitch.offset_cons, if_neg (by omega)]; rfl) (by decide) dX7_carryOut_9 ?_
    have hc : (Sh.vz (F d.toNat)) p = 100 := by omega
    have hL : ldz (Sh.vz (F d.toNat)) (p + 1) 2 = 2 := by have h := hsd.2; rw [hc] at h; exact h
    refine x_aload_n C 3 rfl rfl dX7_carryOut_144 ?_
    refine x_aload_n C 1 rfl rfl dX7_carryOut_145 ?_
    refine x_iload_n C 0 rfl rfl dX7_carryOut_146 ?_
    refine x_iconst (v := 0) C dX7_carryOut_147 ?_
    refine x_S_I C (As := [.ref (b (2 + 2 * d.toNat)), .int (iN (p + 1)), .int (iN (2))]) (rest := [.ref (b 38)]) 3 gX7_carryOut_X7_number (MI.shr b F N M P hp sd d.toNat (show d.toNat < 8 by omega) (fun r => r = numz (Sh.vz (F d.toNat)) (p + 1) 2) (c_X7_number _ _ (saD b d.toNat) (F d.toNat) (hF d.toNat (by omega)) (p + 1) (2) (by omega) (by omega)) (fun r w h => ⟨h.1, h.2⟩)) rfl ok_X7_number rfl rfl rfl rfl dX7_carryOut_148 (fun r w1 hp => ?_)
    obtain ⟨rfl, rfl⟩ := hp
    show Wx X 0 0 (WX X.γ b F N M P hp sd) 151 [(3, .int (iN (p + 1))), (0, .ref (b (2 + 2 * d.toNat))), (1, .int (iN (p))), (2, .ref (b 38))] [.int (iN (numz (Sh.vz (F d.toNat)) (p + 1) 2)), .ref (b 38)]
    have b157 := numz_d (ldz_mid (u := (Sh.vz (F d.toNat))) (p := p + 1) (q := p + 1) 0 2 0 (by omega) hL)
    refine x_V_I C (As := [.int (iN (numz (Sh.vz (F d.toNat)) (p + 1) 2))]) (rest := []) 1 38 rfl rfl gX7_carryOut_X1_passDaysAsTold rfl (MI.fM b F N M P hp sd (fun r Z => (((1 ≤ (numz (Sh.vz (F d.toNat)) (p + 1) 2) ∧ (numz (Sh.vz (F d.toNat)) (p + 1) 2) ≤ 60) ∧ Ct.dy M + (numz (Sh.vz (F d.toNat)) (p + 1) 2) ≤ 999) ∧ r = 1 ∧ (Ct.days M (numz (Sh.vz (F d.toNat)) (p + 1) 2).toNat) = Z) ∨ (¬ ((1 ≤ (numz (Sh.vz (F d.toNat)) (p + 1) 2) ∧ (numz (Sh.vz (F d.toNat)) (p + 1) 2) ≤ 60) ∧ Ct.dy M + (numz (Sh.vz (F d.toNat)) (p + 1) 2) ≤ 999) ∧ r = 0 ∧ M = Z)) (c_X1_passDaysAsTold _ _ (adM b) M hM (numz (Sh.vz (F d.toNat)) (p + 1) 2) (by omega) (by omega)) (fun r w h => h.elim (fun h => ⟨_, Or.inl ⟨h.1, h.2.1, rfl⟩, h.2.2⟩) (fun h => ⟨_, Or.inr ⟨h.1, h.2.1, rfl⟩, h.2.2⟩))) rfl ok_X1_passDaysAsTold rfl rfl rfl rfl dX7_carryOut_151 (fun r w1 hp => ?_)
    rcases hp with ⟨_, (⟨hp1, rfl, rfl⟩ | ⟨hp1, rfl, rfl⟩), rfl⟩
    · exact hret _ _ _ _ dX7_carryOut_154 (nar_z (by decide)) (Or.inl ⟨(by unfold sok; rw [hc, sck_d]; exact if_pos (show (1 ≤ numz (Sh.vz (F d.toNat)) (p + 1) 2 ∧ numz (Sh.vz (F d.toNat)) (p + 1) 2 ≤ 60) ∧ Ct.dy M + numz (Sh.vz (F d.toNat)) (p + 1) 2 ≤ 999 by omega)), rfl, (Ct.wa (Ct.days M (numz (Sh.vz (F d.toNat)) (p + 1) 2).toNat)), (by unfold snx; rw [hc, snc_d]; try rfl)⟩)
    · exact hret _ _ _ _ dX7_carryOut_154 (nar_z (by decide)) (Or.inr ⟨(by unfold sok; rw [hc, sck_d]; exact if_neg (show ¬ ((1 ≤ numz (Sh.vz (F d.toNat)) (p + 1) 2 ∧ numz (Sh.vz (F d.toNat)) (p + 1) 2 ≤ 60) ∧ Ct.dy M + numz (Sh.vz (F d.toNat)) (p + 1) 2 ≤ 999) by omega)), rfl, rfl⟩)
end HXHaa
