section HCT2
theorem in_X1_setNature_X1 : ∀ w ∈ u_ws RX1 TX1 13, w ∈ wsX1_setNature := by decide +kernel
theorem ok_X1_setNature : okY yX1_setNature 4 := by decide +kernel
def rmX1_setNature : Room := { frames := 3, cells := 0, slots := 0, locals := 82 }
set_option maxRecDepth 100000 in
set_option maxHeartbeats 4000000 in
theorem c_X1_setNature (l : Launch) (γ : GX) (a : Nat → Nat) (C0 : Ct) (hW : WFc C0) (i : Int) (k : Int) (fg : Int) (ag : Int) (h0_ : -2147483648 ≤ i ∧ i < 2147483648) (h1_ : -2147483648 ≤ k ∧ k < 2147483648) (h2_ : -2147483648 ≤ fg ∧ fg < 2147483648) (h3_ : -2147483648 ≤ ag ∧ ag < 2147483648) : MI l γ yX1_setNature wsX1_setNature rmX1_setNature [.ref (a 0), .int (iN (i)), .int (iN (k)), .int (iN (fg)), .int (iN (ag))] (CT γ a C0 ++ KI γ a) (fun r_ w_ => (((0 ≤ i ∧ i ≤ 5) ∧ (0 ≤ k ∧ k ≤ 7) ∧ (0 ≤ fg ∧ fg ≤ 9) ∧ 0 ≤ ag ∧ ag ≤ 120) ∧ r_ = 1 ∧ w_ = CT γ a (Ct.set_sr (Ct.set_sp (Ct.set_pr (Ct.set_ag (Ct.set_fg (Ct.set_kd C0 (upz (Ct.kd C0) i k)) (upz (Ct.fg C0) i fg)) (upz (Ct.ag C0) i ag)) (upz (Ct.pr C0) i (prF k fg ag))) (upz (Ct.sp C0) i (spF k))) (upz (Ct.sr C0) i (srF k fg))) ++ KI γ a) ∨ (¬ ((0 ≤ i ∧ i ≤ 5) ∧ (0 ≤ k ∧ k ≤ 7) ∧ (0 ≤ fg ∧ fg ≤ 9) ∧ 0 ≤ ag ∧ ag ≤ 120) ∧ r_ = 0 ∧ w_ = CT γ a C0 ++ KI γ a)) 0 0 := by
  refine MI.of (cc := cX1_setNature) (maxL := 5) (rt := .boolean) RX1 rfl (by decide +kernel) rfl (Nat.le_of_ble_eq_true rfl) ?_
  intro X C hγ hl hnm hret
  subst hγ
  have hWn := WFc.n hW
  show Wx X 0 0 (CT X.γ a C0 ++ KI X.γ a) 0 [(0, .ref (a 0)), (1, .int (iN (i))), (2, .int (iN (k))), (3, .int (iN (fg))), (4, .int (iN (ag)))] []
  refine x_iload_n C 1 rfl rfl dX1_setNature_0 ?_
  refine x_iconst (v := 0) C dX1_setNature_1 ?_
  refine x_iconst (v := 0) C dX1_setNature_2 ?_
  refine x_N_I C (As := [.int (iN (i)), .int (iN (0)), .int (iN (5))]) (rest := []) (host := RX11) 3 gX1_setNature_X11_isWithin_n65 (List.mem_of_getElem? (i := 3) rfl) (List.mem_of_getElem? (i := 9) rfl) (List.mem_of_getElem? (i := 8) rfl) (c_X11_isWithin _ _ (CT X.γ a C0 ++ KI X.γ a) (i) (0) (5) (by omega) (by omega) (by omega)) rfl ok_X11_isWithin rfl rfl rfl rfl dX1_setNature_3 (fun r w1 hp => ?_)
  obtain ⟨rfl, rfl⟩ := hp
  refine x_ifeq_bz C 40 (by decide) dX1_setNature_6 (fun c_6 => ?_) (fun c_6 => ?_)
  · refine x_iconst (v := 0) C dX1_setNature_40 ?_
    exact hret _ _ _ _ dX1_setNature_41 (nar_z (by decide)) (Or.inr ⟨(by omega), rfl, rfl⟩)
  · refine x_iload_n C 2 rfl rfl dX1_setNature_9 ?_
    refine x_iconst (v := 0) C dX1_setNature_10 ?_
    refine x_bipush C (7) (by decide) dX1_setNature_11 ?_
    refine x_N_I C (As := [.int (iN (k)), .int (iN (0)), .int (iN (7))]) (rest := []) (host := RX11) 3 gX1_setNature_X11_isWithin_n65 (List.mem_of_getElem? (i := 3) rfl) (List.mem_of_getElem? (i := 9) rfl) (List.mem_of_getElem? (i := 8) rfl) (c_X11_isWithin _ _ (CT X.γ a C0 ++ KI X.γ a) (k) (0) (7) (by omega) (by omega) (by omega)) rfl ok_X11_isWithin rfl rfl rfl rfl dX1_setNature_13 (fun r w1 hp => ?_)
    obtain ⟨rfl, rfl⟩ := hp
    refine x_ifeq_bz C 40 (by decide) dX1_setNature_16 (fun c_16 => ?_) (fun c_16 => ?_)
    · refine x_iconst (v := 0) C dX1_setNature_40 ?_
      exact hret _ _ _ _ dX1_setNature_41 (nar_z (by decide)) (Or.inr ⟨(by omega), rfl, rfl⟩)
    · refine x_iload_n C 3 rfl rfl dX1_setNature_19 ?_
      refine x_iconst (v := 0) C dX1_setNature_20 ?_
      refine x_bipush C (9) (by decide) dX1_setNature_21 ?_
      refine x_N_I C (As := [.int (iN (fg)), .int (iN (0)), .int (iN (9))]) (rest := []) (host := RX11) 3 gX1_setNature_X11_isWithin_n65 (List.mem_of_getElem? (i := 3) rfl) (List.mem_of_getElem? (i := 9) rfl) (List.mem_of_getElem? (i := 8) rfl) (c_X11_isWithin _ _ (CT X.γ a C0 ++ KI X.γ a) (fg) (0) (9) (by omega) (by omega) (by omega)) rfl ok_X11_isWithin rfl rfl rfl rfl dX1_setNature_23 (fun r w1 hp => ?_)
      obtain ⟨rfl, rfl⟩ := hp
      refine x_ifeq_bz C 40 (by decide) dX1_setNature_26 (fun c_26 => ?_) (fun c_26 => ?_)
      · refine x_iconst (v := 0) C dX1_setNature_40 ?_
        exact hret _ _ _ _ dX1_setNature_41 (nar_z (by decide)) (Or.inr ⟨(by omega), rfl, rfl⟩)
      · refine x_iload C 4 rfl dX1_setNature_29 ?_
        refine x_iconst (v := 0) C dX1_setNature_31 ?_
        refine x_bipush C (120) (by decide) dX1_setNature_32 ?_
        refine x_N_I C (As := [.int (iN (ag)), .int (iN (0)), .int (iN (120))]) (rest := []) (host := RX11) 3 gX1_setNature_X11_isWithin_n65 (List.mem_of_getElem? (i := 3) rfl) (List.mem_of_getElem? (i := 9) rfl) (List.mem_of_getElem? (i := 8) rfl) (c_X11_isWithin _ _ (CT X.γ a C0 ++ KI X.γ a) (ag) (0) (120) (by omega) (by omega) (by omega)) rfl ok_X11_isWithin rfl rfl rfl rfl dX1_setNature_34 (fun r w1 hp => ?_)
        obtain ⟨rfl, rfl⟩ := hp
        refine x_ifne_bz C 42 (by decide) dX1_setNature_37 (fun c_37 => ?_) (fun c_37 => ?_)
        · refine x_aload_n C 0 rfl rfl dX1_setNature_42 ?_
          refine x_get C in_X1_setNature_X1 0 rfl rfl 4 (by decide) (List.mem_of_getElem? (i := 1) rfl) rfl (v := .ref (a 2)) rfl dX1_setNature_43 ?_
          refine x_iload_n C 1 rfl rfl dX1_setNature_46 ?_
          refine x_iload_n C 2 rfl rfl dX1_setNature_47 ?_
          refine x_iastore C (f := Ct.kd C0) 2 rfl (by omega) rfl (CT X.γ a (Ct.set_kd C0 (upz (Ct.kd C0) i k)) ++ KI X.γ a) rfl dX1_setNature_48 ?_
          refine x_aload_n C 0 rfl rfl dX1_setNature_49 ?_
          refine x_get C in_X1_setNature_X1 0 rfl rfl 5 (by decide) (List.mem_of_getElem? (i := 2) rfl) rfl (v := .ref (a 3)) rfl dX1_setNature_50 ?_
          refine x_iload_n C 1 rfl rfl dX1_setNature_53 ?_
          refine x_iload_n C 3 rfl rfl dX1_setNature_54 ?_
          refine x_iastore C (f := Ct.fg C0) 3 rfl (by omega) rfl (CT X.γ a (Ct.set_fg (Ct.set_kd C0 (upz (Ct.kd C0) i k)) (upz (Ct.fg C0) i fg)) ++ KI X.γ a) rfl dX1_setNature_55 ?_
          refine x_aload_n C 0 rfl rfl dX1_setNature_56 ?_
          refine x_get C in_X1_setNature_X1 0 rfl rfl 6 (by decide) (List.mem_of_getElem? (i := 3) rfl) rfl (v := .ref (a 4)) rfl dX1_setNature_57 ?_
          refine x_iload_n C 1 rfl rfl dX1_setNature_60 ?_
          refine x_iload C 4 rfl dX1_setNature_61 ?_
          refine x_iastore C (f := Ct.ag C0) 4 rfl (by omega) rfl (CT X.γ a (Ct.set_ag (Ct.set_fg (Ct.set_kd C0 (upz (Ct.kd C0) i k)) (upz (Ct.fg C0) i fg)) (upz (Ct.ag C0) i ag)) ++ KI X.γ a) rfl dX1_setNature_63 ?_
          refine x_aload_n C 0 rfl rfl dX1_setNature_64 ?_
          refine x_get C in_X1_setNature_X1 0 rfl rfl 9 (by decide) (List.mem_of_getElem? (i := 4) rfl) rfl (v := .ref (a 7)) rfl dX1_setNature_65 ?_
          refine x_iload_n C 1 rfl rfl dX1_setNature_68 ?_
          refine x_aload_n C 0 rfl rfl dX1_setNature_69 ?_
          refine x_get C in_X1_setNature_X1 0 rfl rfl 0 (by decide) (List.mem_of_getElem? (i := 5) rfl) rfl (v := .ref (a 11)) rfl dX1_setNature_70 ?_
          refine x_iload_n C 2 rfl rfl dX1_setNature_73 ?_
          refine x_aaloadW C (f := fun k => some (a (12 + k.toNat))) (b := a (12 + (k).toNat)) 11 rfl (by omega) rfl rfl dX1_setNature_74 ?_
          refine x_iload_n C 3 rfl rfl dX1_setNature_75 ?_
          refine x_iload C 4 rfl dX1_setNature_76 ?_
          have J78 : Wx X 0 0 (CT X.γ a (Ct.set_ag (Ct.set_fg (Ct.set_kd C0 (upz (Ct.kd C0) i k)) (upz (Ct.fg C0) i fg)) (upz (Ct.ag C0) i ag)) ++ KI X.γ a) 81 [(0, .ref (a 0)), (1, .int (iN (i))), (2, .int (iN (k))), (3, .int (iN (fg))), (4, .int (iN (ag)))] [.int (iN (prF k fg ag)), .int (iN (i)), .ref (a 7)] → Wx X 0 0 (CT X.γ a (Ct.set_ag (Ct.set_fg (Ct.set_kd C0 (upz (Ct.kd C0) i k)) (upz (Ct.fg C0) i fg)) (upz (Ct.ag C0) i ag)) ++ KI X.γ a) 78 [(0, .ref (a 0)), (1, .int (iN (i))), (2, .int (iN (k))), (3, .int (iN (fg))), (4, .int (iN (ag)))] [.int (iN (ag)), .int (iN (fg)), .ref (a (12 + (k).toNat)), .int (iN (i)), .ref (a 7)] := by
            intro kk
            have hk : k = 0 ∨ k = 1 ∨ k = 2 ∨ k = 3 ∨ k = 4 ∨ k = 5 ∨ k = 6 ∨ k = 7 := by omega
            rcases hk with hk | hk | hk | hk | hk | hk | hk | hk
            · have e : prF k fg ag = prW ag := by rw [hk]; rfl
              rw [e] at kk
              refine x_V_I C (As := [.int (iN (fg)), .int (iN (ag))]) (rest := [.int (iN (i)), .ref (a 7)]) (b := a (12 + (k).toNat)) 2 12 (fs := []) (ci := 8) (by rw [hk]; rfl) rfl gX1_setNature_X9_presses rfl (c_X9_presses _ _ (CT X.γ a (Ct.set_ag (Ct.set_fg (Ct.set_kd C0 (upz (Ct.kd C0) i k)) (upz (Ct.fg C0) i fg)) (upz (Ct.ag C0) i ag)) ++ KI X.γ a) (q0 := 12) (b := a (12 + (k).toNat)) (ci := 8) (Cn := RX9) (T := TX9) (N := 0) (fs := []) (by rw [hk]; rfl) rfl (fg) (ag) (by omega) (by omega)) rfl ok_X9_presses rfl rfl rfl rfl dX1_setNature_78 (fun r w1 hp => ?_)
              obtain ⟨rfl, rfl⟩ := hp
              exact kk
            · have e : prF k fg ag = prR ag := by rw [hk]; rfl
              rw [e] at kk
              refine x_O_I C (As := [.int (iN (fg)), .int (iN (ag))]) (rest := [.int (iN (i)), .ref (a 7)]) (b := a (12 + (k).toNat)) 2 13 (fs := []) (ci := 4) (by rw [hk]; rfl) rfl gX1_setNature_X4_presses_u77X4 (h0 := (List.mem_of_getElem? (i := 28) rfl)) (by decide +kernel) (c_X4_presses _ _ (CT X.γ a (Ct.set_ag (Ct.set_fg (Ct.set_kd C0 (upz (Ct.kd C0) i k)) (upz (Ct.fg C0) i fg)) (upz (Ct.ag C0) i ag)) ++ KI X.γ a) (q0 := 13) (b := a (12 + (k).toNat)) (ci := 4) (Cn := RX4) (T := TX4) (N := 0) (fs := []) (by rw [hk]; rfl) rfl (fg) (ag) (by omega) (by omega)) rfl ok_X4_presses rfl rfl rfl rfl dX1_setNature_78 (fun r w1 hp => ?_)
              obtain ⟨rfl, rfl⟩ := hp
              exact kk
            · have e : prF k fg ag = prW ag := by rw [hk]; rfl
              rw [e] at kk
              refine x_U_I C (As := [.int (iN (fg)), .int (iN (ag))]) (rest := [.int (iN (i)), .ref (a 7)]) (b := a (12 + (k).toNat)) 2 14 (fs := []) (ci := 3) (by rw [hk]; rfl) rfl gX1_setNature_X9_presses_u77X3 rfl (by decide +kernel) (c_X9_presses _ _ (CT X.γ a (Ct.set_ag (Ct.set_fg (Ct.set_kd C0 (upz (Ct.kd C0) i k)) (upz (Ct.fg C0) i fg)) (upz (Ct.ag C0) i ag)) ++ KI X.γ a) (q0 := 14) (b := a (12 + (k).toNat)) (ci := 3) (Cn := RX3) (T := TX3) (N := 0) (fs := []) (by rw [hk]; rfl) rfl (fg) (ag) (by omega) (by omega)) rfl ok_X9_presses rfl rfl rfl rfl dX1_setNature_78 (fun r w1 hp => ?_)
              obtain ⟨rfl, rfl⟩ := hp
              exact kk
            · have e : prF k fg ag = prS ag := by rw [hk]; rfl
              rw [e] at kk
              refine x_O_I C (As := [.int (iN (fg)), .int (iN (ag))]) (rest := [.int (iN (i)), .ref (a 7)]) (b := a (12 + (k).toNat)) 2 15 (fs := []) (ci := 6) (by rw [hk]; rfl) rfl gX1_setNature_X6_presses_u77X6 (h0 := (List.mem_of_getElem? (i := 28) rfl)) (by decide +kernel) (c_X6_presses _ _ (CT X.γ a (Ct.set_ag (Ct.set_fg (Ct.set_kd C0 (upz (Ct.kd C0) i k)) (upz (Ct.fg C0) i fg)) (upz (Ct.ag C0) i ag)) ++ KI X.γ a) (q0 := 15) (b := a (12 + (k).toNat)) (ci := 6) (Cn := RX6) (T := TX6) (N := 0) (fs := []) (by rw [hk]; rfl) rfl (fg) (ag) (by omega) (by omega)) rfl ok_X6_presses rfl rfl rfl rfl dX1_setNature_78 (fun r w1 hp => ?_)
              obtain ⟨rfl, rfl⟩ := hp
              exact kk
            · have e : prF k fg ag = 2 * prS ag := by rw [hk]; rfl
              rw [e] at kk
              refine x_O_I C (As := [.int (iN (fg)), .int (iN (ag))]) (rest := [.int (iN (i)), .ref (a 7)]) (b := a (12 + (k).toNat)) 2 16 (fs := []) (ci := 2) (by rw [hk]; rfl) rfl gX1_setNature_X2_presses_u77X2 (h0 := (List.mem_of_getElem? (i := 28) rfl)) (by decide +kernel) (c_X2_presses _ _ (CT X.γ a (Ct.set_ag (Ct.set_fg (Ct.set_kd C0 (upz (Ct.kd C0) i k)) (upz (Ct.fg C0) i fg)) (upz (Ct.ag C0) i ag)) ++ KI X.γ a) (q0 := 16) (b := a (12 + (k).toNat)) (ci := 2) (Cn := RX2) (T := TX2) (N := 0) (fs := []) (by rw [hk]; rfl) rfl (fg) (ag) (by omega) (by omega)) rfl ok_X2_presses rfl rfl rfl rfl dX1_setNature_78 (fun r w1 hp => ?_)
              obtain ⟨rfl, rfl⟩ := hp
              exact kk
            · have e : prF k fg ag = prR ag + fg / 3 := by rw [hk]; rfl
              rw [e] at kk
              refine x_O_I C (As := [.int (iN (fg)), .int (iN (ag))]) (rest := [.int (iN (i)), .ref (a 7)]) (b := a (12 + (k).toNat)) 2 17 (fs := []) (ci := 0) (by rw [hk]; rfl) rfl gX1_setNature_X0_presses_u77X0 (h0 := (List.mem_of_getElem? (i := 28) rfl)) (by decide +kernel) (c_X0_presses _ _ (CT X.γ a (Ct.set_ag (Ct.set_fg (Ct.set_kd C0 (upz (Ct.kd C0) i k)) (upz (Ct.fg C0) i fg)) (upz (Ct.ag C0) i ag)) ++ KI X.γ a) (q0 := 17) (b := a (12 + (k).toNat)) (ci := 0) (Cn := RX0) (T := TX0) (N := 0) (fs := []) (by rw [hk]; rfl) rfl (fg) (ag) (by omega) (by omega)) rfl ok_X0_presses rfl rfl rfl rfl dX1_setNature_78 (fun r w1 hp => ?_)
              obtain ⟨rfl, rfl⟩ := hp
              exact kk
            · have e : prF k fg ag = prW ag + 1 := by rw [hk]; rfl
              rw [e] at kk
              refine x_O_I C (As := [.int (iN (fg)), .int (iN (ag))]) (rest := [.int (iN (i)), .ref (a 7)]) (b := a (12 + (k).toNat)) 2 18 (fs := []) (ci := 7) (by rw [hk]; rfl) rfl gX1_setNature_X8_presses_u77X8 (h0 := (List.mem_of_getElem? (i := 28) rfl)) (by decide +kernel) (c_X8_presses _ _ (CT X.γ a (Ct.set_ag (Ct.set_fg (Ct.set_kd C0 (upz (Ct.kd C0) i k)) (upz (Ct.fg C0) i fg)) (upz (Ct.ag C0) i ag)) ++ KI X.γ a) (q0 := 18) (b := a (12 + (k).toNat)) (ci := 7) (Cn := RX8) (T := TX8) (N := 0) (fs := []) (by rw [hk]; rfl) rfl (fg) (ag) (by omega) (by omega)) rfl ok_X8_presses rfl rfl rfl rfl dX1_setNature_78 (fun r w1 hp => ?_)
              obtain ⟨rfl, rfl⟩ := hp
              exact kk
            · have e : prF k fg ag = 0 := by rw [hk]; rfl
              rw [e] at kk
              refine x_O_I C (As := [.int (iN (fg)), .int (iN (ag))]) (rest := [.int (iN (i)), .ref (a 7)]) (b := a (12 + (k).toNat)) 2 19 (fs := []) (ci := 9) (by rw [hk]; rfl) rfl gX1_setNature_X10_presses_u77X10 (h0 := (List.mem_of_getElem? (i := 28) rfl)) (by decide +kernel) (c_X10_presses _ _ (CT X.γ a (Ct.set_ag (Ct.set_fg (Ct.set_kd C0 (upz (Ct.kd C0) i k)) (upz (Ct.fg C0) i fg)) (upz (Ct.ag C0) i ag)) ++ KI X.γ a) (q0 := 19) (b := a (12 + (k).toNat)) (ci := 9) (Cn := RX10) (T := TX10) (N := 0) (fs := []) (by rw [hk]; rfl) rfl (fg) (ag) (by omega) (by omega)) rfl ok_X10_presses rfl rfl rfl rfl dX1_setNature_78 (fun r w1 hp => ?_)
              obtain ⟨rfl, rfl⟩ := hp
              exact kk
          refine J78 ?_
          refine x_iastore C (f := Ct.pr C0) 7 rfl (by omega) rfl (CT X.γ a (Ct.set_pr (Ct.set_ag (Ct.set_fg (Ct.set_kd C0 (upz (Ct.kd C0) i k)) (upz (Ct.fg C0) i fg)) (upz (Ct.ag C0) i ag)) (upz (Ct.pr C0) i (prF k fg ag))) ++ KI X.γ a) rfl dX1_setNature_81 ?_
          refine x_aload_n C 0 rfl rfl dX1_setNature_82 ?_
          refine x_get C in_X1_setNature_X1 0 rfl rfl 10 (by decide) (List.mem_of_getElem? (i := 6) rfl) rfl (v := .ref (a 8)) rfl dX1_setNature_83 ?_
          refine x_iload_n C 1 rfl rfl dX1_setNature_86 ?_
          refine x_aload_n C 0 rfl rfl dX1_setNature_87 ?_
          refine x_get C in_X1_setNature_X1 0 rfl rfl 0 (by decide) (List.mem_of_getElem? (i := 5) rfl) rfl (v := .ref (a 11)) rfl dX1_setNature_88 ?_
          refine x_iload_n C 2 rfl rfl dX1_setNature_91 ?_
          refine x_aaloadW C (f := fun k => some (a (12 + k.toNat))) (b := a (12 + (k).toNat)) 11 rfl (by omega) rfl rfl dX1_setNature_92 ?_
          have J93 : Wx X 0 0 (CT X.γ a (Ct.set_pr (Ct.set_ag (Ct.set_fg (Ct.set_kd C0 (upz (Ct.kd C0) i k)) (upz (Ct.fg C0) i fg)) (upz (Ct.ag C0) i ag)) (upz (Ct.pr C0) i (prF k fg ag))) ++ KI X.γ a) 96 [(0, .ref (a 0)), (1, .int (iN (i))), (2, .int (iN (k))), (3, .int (iN (fg))), (4, .int (iN (ag)))] [.int (iN (spF k)), .int (iN (i)), .ref (a 8)] → Wx X 0 0 (CT X.γ a (Ct.set_pr (Ct.set_ag (Ct.set_fg (Ct.set_kd C0 (upz (Ct.kd C0) i k)) (upz (Ct.fg C0) i fg)) (upz (Ct.ag C0) i ag)) (upz (Ct.pr C0) i (prF k fg ag))) ++ KI X.γ a) 93 [(0, .ref (a 0)), (1, .int (iN (i))), (2, .int (iN (k))), (3, .int (iN (fg))), (4, .int (iN (ag)))] [.ref (a (12 + (k).toNat)), .int (iN (i)), .ref (a 8)] := by
            intro kk
            have hk : k = 0 ∨ k = 1 ∨ k = 2 ∨ k = 3 ∨ k = 4 ∨ k = 5 ∨ k = 6 ∨ k = 7 := by omega
            rcases hk with hk | hk | hk | hk | hk | hk | hk | hk
            · have e : spF k = 0 := by rw [hk]; rfl
              rw [e] at kk
              refine x_V_I C (As := []) (rest := [.int (iN (i)), .ref (a 8)]) (b := a (12 + (k).toNat)) 0 12 (fs := []) (ci := 8) (by rw [hk]; rfl) rfl gX1_setNature_X9_spreads rfl (c_X9_spreads _ _ (CT X.γ a (Ct.set_pr (Ct.set_ag (Ct.set_fg (Ct.set_kd C0 (upz (Ct.kd C0) i k)) (upz (Ct.fg C0) i fg)) (upz (Ct.ag C0) i ag)) (upz (Ct.pr C0) i (prF k fg ag))) ++ KI X.γ a) (q0 := 12) (b := a (12 + (k).toNat)) (ci := 8) (Cn := RX9) (T := TX9) (N := 0) (fs := []) (by rw [hk]; rfl) rfl) rfl ok_X9_spreads rfl rfl rfl rfl dX1_setNature_93 (fun r w1 hp => ?_)
              obtain ⟨rfl, rfl⟩ := hp
              exact kk
            · have e : spF k = 1 := by rw [hk]; rfl
              rw [e] at kk
              refine x_O_I C (As := []) (rest := [.int (iN (i)), .ref (a 8)]) (b := a (12 + (k).toNat)) 0 13 (fs := []) (ci := 4) (by rw [hk]; rfl) rfl gX1_setNature_X4_spreads_u83X4 (h0 := (List.mem_of_getElem? (i := 60) rfl)) (by decide +kernel) (c_X4_spreads _ _ (CT X.γ a (Ct.set_pr (Ct.set_ag (Ct.set_fg (Ct.set_kd C0 (upz (Ct.kd C0) i k)) (upz (Ct.fg C0) i fg)) (upz (Ct.ag C0) i ag)) (upz (Ct.pr C0) i (prF k fg ag))) ++ KI X.γ a) (q0 := 13) (b := a (12 + (k).toNat)) (ci := 4) (Cn := RX4) (T := TX4) (N := 0) (fs := []) (by rw [hk]; rfl) rfl) rfl ok_X4_spreads rfl rfl rfl rfl dX1_setNature_93 (fun r w1 hp => ?_)
              obtain ⟨rfl, rfl⟩ := hp
              exact kk
            · have e : spF k = 0 := by rw [hk]; rfl
              rw [e] at kk
              refine x_U_I C (As := []) (rest := [.int (iN (i)), .ref (a 8)]) (b := a (12 + (k).toNat)) 0 14 (fs := []) (ci := 3) (by rw [hk]; rfl) rfl gX1_setNature_X9_spreads_u83X3 rfl (by decide +kernel) (c_X9_spreads _ _ (CT X.γ a (Ct.set_pr (Ct.set_ag (Ct.set_fg (Ct.set_kd C0 (upz (Ct.kd C0) i k)) (upz (Ct.fg C0) i fg)) (upz (Ct.ag C0) i ag)) (upz (Ct.pr C0) i (prF k fg ag))) ++ KI X.γ a) (q0 := 14) (b := a (12 + (k).toNat)) (ci := 3) (Cn := RX3) (T := TX3) (N := 0) (fs := []) (by rw [hk]; rfl) rfl) rfl ok_X9_spreads rfl rfl rfl rfl dX1_setNature_93 (fun r w1 hp => ?_)
              obtain ⟨rfl, rfl⟩ := hp
              exact kk
            · have e : spF k = 0 := by rw [hk]; rfl
              rw [e] at kk
              refine x_U_I C (As := []) (rest := [.int (iN (i)), .ref (a 8)]) (b := a (12 + (k).toNat)) 0 15 (fs := []) (ci := 6) (by rw [hk]; rfl) rfl gX1_setNature_X9_spreads_u83X6 rfl (by decide +kernel) (c_X9_spreads _ _ (CT X.γ a (Ct.set_pr (Ct.set_ag (Ct.set_fg (Ct.set_kd C0 (upz (Ct.kd C0) i k)) (upz (Ct.fg C0) i fg)) (upz (Ct.ag C0) i ag)) (upz (Ct.pr C0) i (prF k fg ag))) ++ KI X.γ a) (q0 := 15) (b := a (12 + (k).toNat)) (ci := 6) (Cn := RX6) (T := TX6) (N := 0) (fs := []) (by rw [hk]; rfl) rfl) rfl ok_X9_spreads rfl rfl rfl rfl dX1_setNature_93 (fun r w1 hp => ?_)
              obtain ⟨rfl, rfl⟩ := hp
              exact kk
            · have e : spF k = 2 := by rw [hk]; rfl
              rw [e] at kk
              refine x_O_I C (As := []) (rest := [.int (iN (i)), .ref (a 8)]) (b := a (12 + (k).toNat)) 0 16 (fs := []) (ci := 2) (by rw [hk]; rfl) rfl gX1_setNature_X2_spreads_u83X2 (h0 := (List.mem_of_getElem? (i := 60) rfl)) (by decide +kernel) (c_X2_spreads _ _ (CT X.γ a (Ct.set_pr (Ct.set_ag (Ct.set_fg (Ct.set_kd C0 (upz (Ct.kd C0) i k)) (upz (Ct.fg C0) i fg)) (upz (Ct.ag C0) i ag)) (upz (Ct.pr C0) i (prF k fg ag))) ++ KI X.γ a) (q0 := 16) (b := a (12 + (k).toNat)) (ci := 2) (Cn := RX2) (T := TX2) (N := 0) (fs := []) (by rw [hk]; rfl) rfl) rfl ok_X2_spreads rfl rfl rfl rfl dX1_setNature_93 (fun r w1 hp => ?_)
              obtain ⟨rfl, rfl⟩ := hp
              exact kk
            · have e : spF k = 2 := by rw [hk]; rfl
              rw [e] at kk
              refine x_O_I C (As := []) (rest := [.int (iN (i)), .ref (a 8)]) (b := a (12 + (k).toNat)) 0 17 (fs := []) (ci := 0) (by rw [hk]; rfl) rfl gX1_setNature_X0_spreads_u83X0 (h0 := (List.mem_of_getElem? (i := 60) rfl)) (by decide +kernel) (c_X0_spreads _ _ (CT X.γ a (Ct.set_pr (Ct.set_ag (Ct.set_fg (Ct.set_kd C0 (upz (Ct.kd C0) i k)) (upz (Ct.fg C0) i fg)) (upz (Ct.ag C0) i ag)) (upz (Ct.pr C0) i (prF k fg ag))) ++ KI X.γ a) (q0 := 17) (b := a (12 + (k).toNat)) (ci := 0) (Cn := RX0) (T := TX0) (N := 0) (fs := []) (by rw [hk]; rfl) rfl) rfl ok_X0_spreads rfl rfl rfl rfl dX1_setNature_93 (fun r w1 hp => ?_)
              obtain ⟨rfl, rfl⟩ := hp
              exact kk
            · have e : spF k = 0 := by rw [hk]; rfl
              rw [e] at kk
              refine x_U_I C (As := []) (rest := [.int (iN (i)), .ref (a 8)]) (b := a (12 + (k).toNat)) 0 18 (fs := []) (ci := 7) (by rw [hk]; rfl) rfl gX1_setNature_X9_spreads_u83X8 rfl (by decide +kernel) (c_X9_spreads _ _ (CT X.γ a (Ct.set_pr (Ct.set_ag (Ct.set_fg (Ct.set_kd C0 (upz (Ct.kd C0) i k)) (upz (Ct.fg C0) i fg)) (upz (Ct.ag C0) i ag)) (upz (Ct.pr C0) i (prF k fg ag))) ++ KI X.γ a) (q0 := 18) (b := a (12 + (k).toNat)) (ci := 7) (Cn := RX8) (T := TX8) (N := 0) (fs := []) (by rw [hk]; rfl) rfl) rfl ok_X9_spreads rfl rfl rfl rfl dX1_setNature_93 (fun r w1 hp => ?_)
              obtain ⟨rfl, rfl⟩ := hp
              exact kk
            · have e : spF k = 0 := by rw [hk]; rfl
              rw [e] at kk
              refine x_U_I C (As := []) (rest := [.int (iN (i)), .ref (a 8)]) (b := a (12 + (k).toNat)) 0 19 (fs := []) (ci := 9) (by rw [hk]; rfl) rfl gX1_setNature_X9_spreads_u83X10 rfl (by decide +kernel) (c_X9_spreads _ _ (CT X.γ a (Ct.set_pr (Ct.set_ag (Ct.set_fg (Ct.set_kd C0 (upz (Ct.kd C0) i k)) (upz (Ct.fg C0) i fg)) (upz (Ct.ag C0) i ag)) (upz (Ct.pr C0) i (prF k fg ag))) ++ KI X.γ a) (q0 := 19) (b := a (12 + (k).toNat)) (ci := 9) (Cn := RX10) (T := TX10) (N := 0) (fs := []) (by rw [hk]; rfl) rfl) rfl ok_X9_spreads rfl rfl rfl rfl dX1_setNature_93 (fun r w1 hp => ?_)
              obtain ⟨rfl, rfl⟩ := hp
              exact kk
          refine J93 ?_
          refine x_iastore C (f := Ct.sp C0) 8 rfl (by omega) rfl (CT X.γ a (Ct.set_sp (Ct.set_pr (Ct.set_ag (Ct.set_fg (Ct.set_kd C0 (upz (Ct.kd C0) i k)) (upz (Ct.fg C0) i fg)) (upz (Ct.ag C0) i ag)) (upz (Ct.pr C0) i (prF k fg ag))) (upz (Ct.sp C0) i (spF k))) ++ KI X.γ a) rfl dX1_setNature_96 ?_
          refine x_aload_n C 0 rfl rfl dX1_setNature_97 ?_
          refine x_get C in_X1_setNature_X1 0 rfl rfl 11 (by decide) (List.mem_of_getElem? (i := 7) rfl) rfl (v := .ref (a 9)) rfl dX1_setNature_98 ?_
          refine x_iload_n C 1 rfl rfl dX1_setNature_101 ?_
          refine x_aload_n C 0 rfl rfl dX1_setNature_102 ?_
          refine x_get C in_X1_setNature_X1 0 rfl rfl 0 (by decide) (List.mem_of_getElem? (i := 5) rfl) rfl (v := .ref (a 11)) rfl dX1_setNature_103 ?_
          refine x_iload_n C 2 rfl rfl dX1_setNature_106 ?_
          refine x_aaloadW C (f := fun k => some (a (12 + k.toNat))) (b := a (12 + (k).toNat)) 11 rfl (by omega) rfl rfl dX1_setNature_107 ?_
          refine x_iload_n C 3 rfl rfl dX1_setNature_108 ?_
          have J109 : Wx X 0 0 (CT X.γ a (Ct.set_sp (Ct.set_pr (Ct.set_ag (Ct.set_fg (Ct.set_kd C0 (upz (Ct.kd C0) i k)) (upz (Ct.fg C0) i fg)) (upz (Ct.ag C0) i ag)) (upz (Ct.pr C0) i (prF k fg ag))) (upz (Ct.sp C0) i (spF k))) ++ KI X.γ a) 112 [(0, .ref (a 0)), (1, .int (iN (i))), (2, .int (iN (k))), (3, .int (iN (fg))), (4, .int (iN (ag)))] [.int (iN (srF k fg)), .int (iN (i)), .ref (a 9)] → Wx X 0 0 (CT X.γ a (Ct.set_sp (Ct.set_pr (Ct.set_ag (Ct.set_fg (Ct.set_kd C0 (upz (Ct.kd C0) i k)) (upz (Ct.fg C0) i fg)) (upz (Ct.ag C0) i ag)) (upz (Ct.pr C0) i (prF k fg ag))) (upz (Ct.sp C0) i (spF k))) ++ KI X.γ a) 109 [(0, .ref (a 0)), (1, .int (iN (i))), (2, .int (iN (k))), (3, .int (iN (fg))), (4, .int (iN (ag)))] [.int (iN (fg)), .ref (a (12 + (k).toNat)), .int (iN (i)), .ref (a 9)] := by
            intro kk
            have hk : k = 0 ∨ k = 1 ∨ k = 2 ∨ k = 3 ∨ k = 4 ∨ k = 5 ∨ k = 6 ∨ k = 7 := by omega
            rcases hk with hk | hk | hk | hk | hk | hk | hk | hk
            · have e : srF k fg = 2 := by rw [hk]; rfl
              rw [e] at kk
              refine x_V_I C (As := [.int (iN (fg))]) (rest := [.int (iN (i)), .ref (a 9)]) (b := a (12 + (k).toNat)) 1 12 (fs := []) (ci := 8) (by rw [hk]; rfl) rfl gX1_setNature_X9_strides rfl (c_X9_strides _ _ (CT X.γ a (Ct.set_sp (Ct.set_pr (Ct.set_ag (Ct.set_fg (Ct.set_kd C0 (upz (Ct.kd C0) i k)) (upz (Ct.fg C0) i fg)) (upz (Ct.ag C0) i ag)) (upz (Ct.pr C0) i (prF k fg ag))) (upz (Ct.sp C0) i (spF k))) ++ KI X.γ a) (q0 := 12) (b := a (12 + (k).toNat)) (ci := 8) (Cn := RX9) (T := TX9) (N := 0) (fs := []) (by rw [hk]; rfl) rfl (fg) (by omega)) rfl ok_X9_strides rfl rfl rfl rfl dX1_setNature_109 (fun r w1 hp => ?_)
              obtain ⟨rfl, rfl⟩ := hp
              exact kk
            · have e : srF k fg = 1 := by rw [hk]; rfl
              rw [e] at kk
              refine x_O_I C (As := [.int (iN (fg))]) (rest := [.int (iN (i)), .ref (a 9)]) (b := a (12 + (k).toNat)) 1 13 (fs := []) (ci := 4) (by rw [hk]; rfl) rfl gX1_setNature_X4_strides_u87X4 (h0 := (List.mem_of_getElem? (i := 80) rfl)) (by decide +kernel) (c_X4_strides _ _ (CT X.γ a (Ct.set_sp (Ct.set_pr (Ct.set_ag (Ct.set_fg (Ct.set_kd C0 (upz (Ct.kd C0) i k)) (upz (Ct.fg C0) i fg)) (upz (Ct.ag C0) i ag)) (upz (Ct.pr C0) i (prF k fg ag))) (upz (Ct.sp C0) i (spF k))) ++ KI X.γ a) (q0 := 13) (b := a (12 + (k).toNat)) (ci := 4) (Cn := RX4) (T := TX4) (N := 0) (fs := []) (by rw [hk]; rfl) rfl (fg) (by omega)) rfl ok_X4_strides rfl rfl rfl rfl dX1_setNature_109 (fun r w1 hp => ?_)
              obtain ⟨rfl, rfl⟩ := hp
              exact kk
            · have e : srF k fg = 2 := by rw [hk]; rfl
              rw [e] at kk
              refine x_U_I C (As := [.int (iN (fg))]) (rest := [.int (iN (i)), .ref (a 9)]) (b := a (12 + (k).toNat)) 1 14 (fs := []) (ci := 3) (by rw [hk]; rfl) rfl gX1_setNature_X9_strides_u87X3 rfl (by decide +kernel) (c_X9_strides _ _ (CT X.γ a (Ct.set_sp (Ct.set_pr (Ct.set_ag (Ct.set_fg (Ct.set_kd C0 (upz (Ct.kd C0) i k)) (upz (Ct.fg C0) i fg)) (upz (Ct.ag C0) i ag)) (upz (Ct.pr C0) i (prF k fg ag))) (upz (Ct.sp C0) i (spF k))) ++ KI X.γ a) (q0 := 14) (b := a (12 + (k).toNat)) (ci := 3) (Cn := RX3) (T := TX3) (N := 0) (fs := []) (by rw [hk]; rfl) rfl (fg) (by omega)) rfl ok_X9_strides rfl rfl rfl rfl dX1_setNature_109 (fun r w1 hp => ?_)
              obtain ⟨rfl, rfl⟩ := hp
              exact kk
            · have e : srF k fg = 0 := by rw [hk]; rfl
              rw [e] at kk
              refine x_O_I C (As := [.int (iN (fg))]) (rest := [.int (iN (i)), .ref (a 9)]) (b := a (12 + (k).toNat)) 1 15 (fs := []) (ci := 6) (by rw [hk]; rfl) rfl gX1_setNature_X6_strides_u87X6 (h0 := (List.mem_of_getElem? (i := 80) rfl)) (by decide +kernel) (c_X6_strides _ _ (CT X.γ a (Ct.set_sp (Ct.set_pr (Ct.set_ag (Ct.set_fg (Ct.set_kd C0 (upz (Ct.kd C0) i k)) (upz (Ct.fg C0) i fg)) (upz (Ct.ag C0) i ag)) (upz (Ct.pr C0) i (prF k fg ag))) (upz (Ct.sp C0) i (spF k))) ++ KI X.γ a) (q0 := 15) (b := a (12 + (k).toNat)) (ci := 6) (Cn := RX6) (T := TX6) (N := 0) (fs := []) (by rw [hk]; rfl) rfl (fg) (by omega)) rfl ok_X6_strides rfl rfl rfl rfl dX1_setNature_109 (fun r w1 hp => ?_)
              obtain ⟨rfl, rfl⟩ := hp
              exact kk
            · have e : srF k fg = 0 := by rw [hk]; rfl
              rw [e] at kk
              refine x_O_I C (As := [.int (iN (fg))]) (rest := [.int (iN (i)), .ref (a 9)]) (b := a (12 + (k).toNat)) 1 16 (fs := []) (ci := 2) (by rw [hk]; rfl) rfl gX1_setNature_X6_strides_u87X2 (h0 := (List.mem_of_getElem? (i := 80) rfl)) (by decide +kernel) (c_X6_strides _ _ (CT X.γ a (Ct.set_sp (Ct.set_pr (Ct.set_ag (Ct.set_fg (Ct.set_kd C0 (upz (Ct.kd C0) i k)) (upz (Ct.fg C0) i fg)) (upz (Ct.ag C0) i ag)) (upz (Ct.pr C0) i (prF k fg ag))) (upz (Ct.sp C0) i (spF k))) ++ KI X.γ a) (q0 := 16) (b := a (12 + (k).toNat)) (ci := 2) (Cn := RX2) (T := TX2) (N := 0) (fs := []) (by rw [hk]; rfl) rfl (fg) (by omega)) rfl ok_X6_strides rfl rfl rfl rfl dX1_setNature_109 (fun r w1 hp => ?_)
              obtain ⟨rfl, rfl⟩ := hp
              exact kk
            · have e : srF k fg = 1 := by rw [hk]; rfl
              rw [e] at kk
              refine x_O_I C (As := [.int (iN (fg))]) (rest := [.int (iN (i)), .ref (a 9)]) (b := a (12 + (k).toNat)) 1 17 (fs := []) (ci := 0) (by rw [hk]; rfl) rfl gX1_setNature_X4_strides_u87X0 (h0 := (List.mem_of_getElem? (i := 80) rfl)) (by decide +kernel) (c_X4_strides _ _ (CT X.γ a (Ct.set_sp (Ct.set_pr (Ct.set_ag (Ct.set_fg (Ct.set_kd C0 (upz (Ct.kd C0) i k)) (upz (Ct.fg C0) i fg)) (upz (Ct.ag C0) i ag)) (upz (Ct.pr C0) i (prF k fg ag))) (upz (Ct.sp C0) i (spF k))) ++ KI X.γ a) (q0 := 17) (b := a (12 + (k).toNat)) (ci := 0) (Cn := RX0) (T := TX0) (N := 0) (fs := []) (by rw [hk]; rfl) rfl (fg) (by omega)) rfl ok_X4_strides rfl rfl rfl rfl dX1_setNature_109 (fun r w1 hp => ?_)
              obtain ⟨rfl, rfl⟩ := hp
              exact kk
            · have e : srF k fg = 3 := by rw [hk]; rfl
              rw [e] at kk
              refine x_O_I C (As := [.int (iN (fg))]) (rest := [.int (iN (i)), .ref (a 9)]) (b := a (12 + (k).toNat)) 1 18 (fs := []) (ci := 7) (by rw [hk]; rfl) rfl gX1_setNature_X8_strides_u87X8 (h0 := (List.mem_of_getElem? (i := 80) rfl)) (by decide +kernel) (c_X8_strides _ _ (CT X.γ a (Ct.set_sp (Ct.set_pr (Ct.set_ag (Ct.set_fg (Ct.set_kd C0 (upz (Ct.kd C0) i k)) (upz (Ct.fg C0) i fg)) (upz (Ct.ag C0) i ag)) (upz (Ct.pr C0) i (prF k fg ag))) (upz (Ct.sp C0) i (spF k))) ++ KI X.γ a) (q0 := 18) (b := a (12 + (k).toNat)) (ci := 7) (Cn := RX8) (T := TX8) (N := 0) (fs := []) (by rw [hk]; rfl) rfl (fg) (by omega)) rfl ok_X8_strides rfl rfl rfl rfl dX1_setNature_109 (fun r w1 hp => ?_)
              obtain ⟨rfl, rfl⟩ := hp
              exact kk
            · have e : srF k fg = 3 + fg / 3 := by rw [hk]; rfl
              rw [e] at kk
              refine x_O_I C (As := [.int (iN (fg))]) (rest := [.int (iN (i)), .ref (a 9)]) (b := a (12 + (k).toNat)) 1 19 (fs := []) (ci := 9) (by rw [hk]; rfl) rfl gX1_setNature_X10_strides_u87X10 (h0 := (List.mem_of_getElem? (i := 80) rfl)) (by decide +kernel) (c_X10_strides _ _ (CT X.γ a (Ct.set_sp (Ct.set_pr (Ct.set_ag (Ct.set_fg (Ct.set_kd C0 (upz (Ct.kd C0) i k)) (upz (Ct.fg C0) i fg)) (upz (Ct.ag C0) i ag)) (upz (Ct.pr C0) i (prF k fg ag))) (upz (Ct.sp C0) i (spF k))) ++ KI X.γ a) (q0 := 19) (b := a (12 + (k).toNat)) (ci := 9) (Cn := RX10) (T := TX10) (N := 0) (fs := []) (by rw [hk]; rfl) rfl (fg) (by omega)) rfl ok_X10_strides rfl rfl rfl rfl dX1_setNature_109 (fun r w1 hp => ?_)
              obtain ⟨rfl, rfl⟩ := hp
              exact kk
          refine J109 ?_
          refine x_iastore C (f := Ct.sr C0) 9 rfl (by omega) rfl (CT X.γ a (Ct.set_sr (Ct.set_sp (Ct.set_pr (Ct.set_ag (Ct.set_fg (Ct.set_kd C0 (upz (Ct.kd C0) i k)) (upz (Ct.fg C0) i fg)) (upz (Ct.ag C0) i ag)) (upz (Ct.pr C0) i (prF k fg ag))) (upz (Ct.sp C0) i (spF k))) (upz (Ct.sr C0) i (srF k fg))) ++ KI X.γ a) rfl dX1_setNature_112 ?_
          refine x_iconst (v := 0) C dX1_setNature_113 ?_
          exact hret _ _ _ _ dX1_setNature_114 (nar_z (by decide)) (Or.inl ⟨(by omega), rfl, rfl⟩)
        · refine x_iconst (v := 0) C dX1_setNature_40 ?_
          exact hret _ _ _ _ dX1_setNature_41 (nar_z (by decide)) (Or.inr ⟨(by omega), rfl, rfl⟩)
theorem in_X1_shownAge_X1 : ∀ w ∈ u_ws RX1 TX1 13, w ∈ wsX1_shownAge := by decide +kernel
theorem ok_X1_shownAge : okY yX1_shownAge 1 := by decide +kernel
def rmX1_shownAge : Room := { frames := 2, cells := 0, slots := 0, locals := 45 }
set_option maxRecDepth 100000 in
set_option maxHeartbeats 4000000 in
theorem c_X1_shownAge (l : Launch) (γ : GX) (a : Nat → Nat) (C0 : Ct) (hW : WFc C0) (i : Int) (h0_ : 0 ≤ i ∧ i < 6) : MI l γ yX1_shownAge wsX1_shownAge rmX1_shownAge [.ref (a 0), .int (iN (i))] (CT γ a C0 ++ KI γ a) (fun r_ w_ => r_ = shF (Ct.kd C0 i) (Ct.fg C0 i) (Ct.ag C0 i) ∧ w_ = CT γ a C0 ++ KI γ a) 0 0 := by
  refine MI.of (cc := cX1_shownAge) (maxL := 2) (rt := .int) RX1 rfl (by decide +kernel) rfl (Nat.le_of_ble_eq_true rfl) ?_
  intro X C hγ hl hnm hret
  subst hγ
  have hWn := WFc.n hW
  show Wx X 0 0 (CT X.γ a C0 ++ KI X.γ a) 0 [(0, .ref (a 0)), (1, .int (iN (i)))] []
  refine x_aload_n C 0 rfl rfl dX1_shownAge_0 ?_
  refine x_get C in_X1_shownAge_X1 0 rfl rfl 0 (by decide) (List.mem_of_getElem? (i := 1) rfl) rfl (v := .ref (a 11)) rfl dX1_shownAge_1 ?_
  refine x_aload_n C 0 rfl rfl dX1_shownAge_4 ?_
  refine x_get C in_X1_shownAge_X1 0 rfl rfl 4 (by decide) (List.mem_of_getElem? (i := 2) rfl) rfl (v := .ref (a 2)) rfl dX1_shownAge_5 ?_
  refine x_iload_n C 1 rfl rfl dX1_shownAge_8 ?_
  refine x_iaload C (f := Ct.kd C0) 2 rfl (by omega) rfl dX1_shownAge_9 ?_
  have b44 := WFc.kd hW (i)
  refine x_aaloadW C (f := fun k => some (a (12 + k.toNat))) (b := a (12 + (Ct.kd C0 i).toNat)) 11 rfl (by omega) rfl rfl dX1_shownAge_10 ?_
  refine x_aload_n C 0 rfl rfl dX1_shownAge_11 ?_
  refine x_get C in_X1_shownAge_X1 0 rfl rfl 5 (by decide) (List.mem_of_getElem? (i := 3) rfl) rfl (v := .ref (a 3)) rfl dX1_shownAge_12 ?_
  refine x_iload_n C 1 rfl rfl dX1_shownAge_15 ?_
  refine x_iaload C (f := Ct.fg C0) 3 rfl (by omega) rfl dX1_shownAge_16 ?_
  have b45 := WFc.fg hW (i)
  refine x_aload_n C 0 rfl rfl dX1_shownAge_17 ?_
  refine x_get C in_X1_shownAge_X1 0 rfl rfl 6 (by decide) (List.mem_of_getElem? (i := 4) rfl) rfl (v := .ref (a 4)) rfl dX1_shownAge_18 ?_
  refine x_iload_n C 1 rfl rfl dX1_shownAge_21 ?_
  refine x_iaload C (f := Ct.ag C0) 4 rfl (by omega) rfl dX1_shownAge_22 ?_
  have b46 := WFc.ag hW (i)
  have J23 : Wx X 0 0 (CT X.γ a C0 ++ KI X.γ a) 26 [(0, .ref (a 0)), (1, .int (iN (i)))] [.int (iN (shF (Ct.kd C0 i) (Ct.fg C0 i) (Ct.ag C0 i)))] → Wx X 0 0 (CT X.γ a C0 ++ KI X.γ a) 23 [(0, .ref (a 0)), (1, .int (iN (i)))] [.int (iN (Ct.ag C0 i)), .int (iN (Ct.fg C0 i)), .ref (a (12 + (Ct.kd C0 i).toNat))] := by
    intro kk
    have hk : Ct.kd C0 i = 0 ∨ Ct.kd C0 i = 1 ∨ Ct.kd C0 i = 2 ∨ Ct.kd C0 i = 3 ∨ Ct.kd C0 i = 4 ∨ Ct.kd C0 i = 5 ∨ Ct.kd C0 i = 6 ∨ Ct.kd C0 i = 7 := by omega
    rcases hk with hk | hk | hk | hk | hk | hk | hk | hk
    · have e : shF (Ct.kd C0 i) (Ct.fg C0 i) (Ct.ag C0 i) = (Ct.ag C0 i) := by rw [hk]; rfl
      rw [e] at kk
      refine x_V_I C (As := [.int (iN (Ct.fg C0 i)), .int (iN (Ct.ag C0 i))]) (rest := []) (b := a (12 + (Ct.kd C0 i).toNat)) 2 12 (fs := []) (ci := 8) (by rw [hk]; rfl) rfl gX1_shownAge_X9_shows rfl (c_X9_shows _ _ (CT X.γ a C0 ++ KI X.γ a) (q0 := 12) (b := a (12 + (Ct.kd C0 i).toNat)) (ci := 8) (Cn := RX9) (T := TX9) (N := 0) (fs := []) (by rw [hk]; rfl) rfl (Ct.fg C0 i) (Ct.ag C0 i) (by omega) (by omega)) rfl ok_X9_shows rfl rfl rfl rfl dX1_shownAge_23 (fun r w1 hp => ?_)
      obtain ⟨rfl, rfl⟩ := hp
      exact kk
    · have e : shF (Ct.kd C0 i) (Ct.fg C0 i) (Ct.ag C0 i) = (Ct.ag C0 i) := by rw [hk]; rfl
      rw [e] at kk
      refine x_U_I C (As := [.int (iN (Ct.fg C0 i)), .int (iN (Ct.ag C0 i))]) (rest := []) (b := a (12 + (Ct.kd C0 i).toNat)) 2 13 (fs := []) (ci := 4) (by rw [hk]; rfl) rfl gX1_shownAge_X9_shows_u109X4 rfl (by decide +kernel) (c_X9_shows _ _ (CT X.γ a C0 ++ KI X.γ a) (q0 := 13) (b := a (12 + (Ct.kd C0 i).toNat)) (ci := 4) (Cn := RX4) (T := TX4) (N := 0) (fs := []) (by rw [hk]; rfl) rfl (Ct.fg C0 i) (Ct.ag C0 i) (by omega) (by omega)) rfl ok_X9_shows rfl rfl rfl rfl dX1_shownAge_23 (fun r w1 hp => ?_)
      obtain ⟨rfl, rfl⟩ := hp
      exact kk
    · have e : shF (Ct.kd C0 i) (Ct.fg C0 i) (Ct.ag C0 i) = shH (Ct.fg C0 i) (Ct.ag C0 i) := by rw [hk]; rfl
      rw [e] at kk
      refine x_O_I C (As := [.int (iN (Ct.fg C0 i)), .int (iN (Ct.ag C0 i))]) (rest := []) (b := a (12 + (Ct.kd C0 i).toNat)) 2 14 (fs := []) (ci := 3) (by rw [hk]; rfl) rfl gX1_shownAge_X3_shows_u109X3 (h0 := (List.mem_of_getElem? (i := 10) rfl)) (by decide +kernel) (c_X3_shows _ _ (CT X.γ a C0 ++ KI X.γ a) (q0 := 14) (b := a (12 + (Ct.kd C0 i).toNat)) (ci := 3) (Cn := RX3) (T := TX3) (N := 0) (fs := []) (by rw [hk]; rfl) rfl (Ct.fg C0 i) (Ct.ag C0 i) (by omega) (by omega)) rfl ok_X3_shows rfl rfl rfl rfl dX1_shownAge_23 (fun r w1 hp => ?_)
      obtain ⟨rfl, rfl⟩ := hp
      exact kk
    · have e : shF (Ct.kd C0 i) (Ct.fg C0 i) (Ct.ag C0 i) = (Ct.ag C0 i) := by rw [hk]; rfl
      rw [e] at kk
      refine x_U_I C (As := [.int (iN (Ct.fg C0 i)), .int (iN (Ct.ag C0 i))]) (rest := []) (b := a (12 + (Ct.kd C0 i).toNat)) 2 15 (fs := []) (ci := 6) (by rw [hk]; rfl) rfl gX1_shownAge_X9_shows_u109X6 rfl (by decide +kernel) (c_X9_shows _ _ (CT X.γ a C0 ++ KI X.γ a) (q0 := 15) (b := a (12 + (Ct.kd C0 i).toNat)) (ci := 6) (Cn := RX6) (T := TX6) (N := 0) (fs := []) (by rw [hk]; rfl) rfl (Ct.fg C0 i) (Ct.ag C0 i) (by omega) (by omega)) rfl ok_X9_shows rfl rfl rfl rfl dX1_shownAge_23 (fun r w1 hp => ?_)
      obtain ⟨rfl, rfl⟩ := hp
      exact kk
    · have e : shF (Ct.kd C0 i) (Ct.fg C0 i) (Ct.ag C0 i) = (Ct.ag C0 i) := by rw [hk]; rfl
      rw [e] at kk
      refine x_U_I C (As := [.int (iN (Ct.fg C0 i)), .int (iN (Ct.ag C0 i))]) (rest := []) (b := a (12 + (Ct.kd C0 i).toNat)) 2 16 (fs := []) (ci := 2) (by rw [hk]; rfl) rfl gX1_shownAge_X9_shows_u109X2 rfl (by decide +kernel) (c_X9_shows _ _ (CT X.γ a C0 ++ KI X.γ a) (q0 := 16) (b := a (12 + (Ct.kd C0 i).toNat)) (ci := 2) (Cn := RX2) (T := TX2) (N := 0) (fs := []) (by rw [hk]; rfl) rfl (Ct.fg C0 i) (Ct.ag C0 i) (by omega) (by omega)) rfl ok_X9_shows rfl rfl rfl rfl dX1_shownAge_23 (fun r w1 hp => ?_)
      obtain ⟨rfl, rfl⟩ := hp
      exact kk
    · have e : shF (Ct.kd C0 i) (Ct.fg C0 i) (Ct.ag C0 i) = (Ct.ag C0 i) := by rw [hk]; rfl
      rw [e] at kk
      refine x_U_I C (As := [.int (iN (Ct.fg C0 i)), .int (iN (Ct.ag C0 i))]) (rest := []) (b := a (12 + (Ct.kd C0 i).toNat)) 2 17 (fs := []) (ci := 0) (by rw [hk]; rfl) rfl gX1_shownAge_X9_shows_u109X0 rfl (by decide +kernel) (c_X9_shows _ _ (CT X.γ a C0 ++ KI X.γ a) (q0 := 17) (b := a (12 + (Ct.kd C0 i).toNat)) (ci := 0) (Cn := RX0) (T := TX0) (N := 0) (fs := []) (by rw [hk]; rfl) rfl (Ct.fg C0 i) (Ct.ag C0 i) (by omega) (by omega)) rfl ok_X9_shows rfl rfl rfl rfl dX1_shownAge_23 (fun r w1 hp => ?_)
      obtain ⟨rfl, rfl⟩ := hp
      exact kk
    · have e : shF (Ct.kd C0 i) (Ct.fg C0 i) (Ct.ag C0 i) = shH (Ct.fg C0 i) (Ct.ag C0 i) / 2 := by rw [hk]; rfl
      rw [e] at kk
      refine x_O_I C (As := [.int (iN (Ct.fg C0 i)), .int (iN (Ct.ag C0 i))]) (rest := []) (b := a (12 + (Ct.kd C0 i).toNat)) 2 18 (fs := []) (ci := 7) (by rw [hk]; rfl) rfl gX1_shownAge_X8_shows_u109X8 (h0 := (List.mem_of_getElem? (i := 10) rfl)) (by decide +kernel) (c_X8_shows _ _ (CT X.γ a C0 ++ KI X.γ a) (q0 := 18) (b := a (12 + (Ct.kd C0 i).toNat)) (ci := 7) (Cn := RX8) (T := TX8) (N := 0) (fs := []) (by rw [hk]; rfl) rfl (Ct.fg C0 i) (Ct.ag C0 i) (by omega) (by omega)) rfl ok_X8_shows rfl rfl rfl rfl dX1_shownAge_23 (fun r w1 hp => ?_)
      obtain ⟨rfl, rfl⟩ := hp
      exact kk
    · have e : shF (Ct.kd C0 i) (Ct.fg C0 i) (Ct.ag C0 i) = (Ct.ag C0 i) := by rw [hk]; rfl
      rw [e] at kk
      refine x_U_I C (As := [.int (iN (Ct.fg C0 i)), .int (iN (Ct.ag C0 i))]) (rest := []) (b := a (12 + (Ct.kd C0 i).toNat)) 2 19 (fs := []) (ci := 9) (by rw [hk]; rfl) rfl gX1_shownAge_X9_shows_u109X10 rfl (by decide +kernel) (c_X9_shows _ _ (CT X.γ a C0 ++ KI X.γ a) (q0 := 19) (b := a (12 + (Ct.kd C0 i).toNat)) (ci := 9) (Cn := RX10) (T := TX10) (N := 0) (fs := []) (by rw [hk]; rfl) rfl (Ct.fg C0 i) (Ct.ag C0 i) (by omega) (by omega)) rfl ok_X9_shows rfl rfl rfl rfl dX1_shownAge_23 (fun r w1 hp => ?_)
      obtain ⟨rfl, rfl⟩ := hp
      exact kk
  refine J23 ?_
  exact hret _ _ _ _ dX1_shownAge_26 rfl ⟨rfl, rfl⟩
theorem in_X1_payOf_X1 : ∀ w ∈ u_ws RX1 TX1 13, w ∈ wsX1_payOf := by decide +kernel
theorem ok_X1_payOf : okY yX1_payOf 1 := by decide +kernel
def rmX1_payOf : Room := { frames := 3, cells := 0, slots := 0, locals := 66 }
set_option maxRecDepth 100000 in
set_option maxHeartbeats 4000000 in
theorem c_X1_payOf (l : Launch) (γ : GX) (a : Nat → Nat) (C0 : Ct) (hW : WFc C0) (bits : Int) (h0_ : 0 ≤ bits ∧ bits < 2147483648) : MI l γ yX1_payOf wsX1_payOf rmX1_payOf [.ref (a 0), .int (iN (bits))] (CT γ a C0 ++ KI γ a) (fun r_ w_ => r_ = sumz (fun i => if btz bits i then shF (Ct.kd C0 i) (Ct.fg C0 i) (Ct.ag C0 i) / 10 + 1 else 0) (Ct.n C0).toNat ∧ w_ = CT γ a C0 ++ KI γ a) 0 0 := by
  refine MI.of (cc := cX1_payOf) (maxL := 4) (rt := .int) RX1 rfl (by decide +kernel) rfl (Nat.le_of_ble_eq_true rfl) ?_
  intro X C hγ hl hnm hret
  subst hγ
  have hWn := WFc.n hW
  show Wx X 0 0 (CT X.γ a C0 ++ KI X.γ a) 0 [(0, .ref (a 0)), (1, .int (iN (bits)))] []
  refine x_iconst (v := 0) C dX1_payOf_0 ?_
  refine x_istore_n C [(2, .int (iN (0))), (0, .ref (a 0)), (1, .int (iN (bits)))] rfl (by decide) rfl dX1_payOf_1 ?_
  refine x_iconst (v := 0) C dX1_payOf_2 ?_
  refine x_istore_n C [(3, .int (iN (0))), (2, .int (iN (0))), (0, .ref (a 0)), (1, .int (iN (bits)))] rfl (by decide) rfl dX1_payOf_3 ?_
  have LP4 : ∀ (f : Nat) (k : Nat) (v3_4 : Int) (v2_4 : Int), ((Ct.n C0).toNat - k < f) → (k ≤ (Ct.n C0).toNat) → (v3_4 = ((k : Int))) → (v2_4 = (sumz (fun i => if btz bits i then shF (Ct.kd C0 i) (Ct.fg C0 i) (Ct.ag C0 i) / 10 + 1 else 0) k)) → Wx X 0 0 (CT X.γ a C0 ++ KI X.γ a) 4 [(3, .int (iN (v3_4))), (2, .int (iN (v2_4))), (0, .ref (a 0)), (1, .int (iN (bits)))] [] := by
    intro f
    induction f with
    | zero => intro k v3_4 v2_4 hf; exact absurd hf (Nat.not_lt_zero _)
    | succ f ih4 =>
      intro k v3_4 v2_4 hf hk e3_4 e2_4
      subst e3_4
      refine x_iload_n C 0 rfl rfl dX1_payOf_4 ?_
      refine x_aload_n C 2 rfl rfl dX1_payOf_5 ?_
      refine x_get C in_X1_payOf_X1 0 rfl rfl 2 (by decide) (List.mem_of_getElem? (i := 1) rfl) rfl (v := .int (iN (Ct.n C0))) rfl dX1_payOf_6 ?_
      refine x_icmp_ge C 39 (by decide) (by omega) dX1_payOf_9 (fun c_9 => ?_) (fun c_9 => ?_)
      · refine x_iload_n C 1 rfl rfl dX1_payOf_39 ?_
        exact hret _ _ _ _ dX1_payOf_40 rfl ⟨(by have hz : k = (Ct.n C0).toNat := (by omega); subst hz; exact e2_4), rfl⟩
      · refine x_iload_n C 3 rfl rfl dX1_payOf_12 ?_
        refine x_iload_n C 0 rfl rfl dX1_payOf_13 ?_
        refine x_N_I C (As := [.int (iN (bits)), .int (iN ((k : Int)))]) (rest := []) (host := RX11) 2 gX1_payOf_X11_isIn_n112 (List.mem_of_getElem? (i := 4) rfl) (List.mem_of_getElem? (i := 3) rfl) (List.mem_of_getElem? (i := 2) rfl) (c_X11_isIn _ _ (CT X.γ a C0 ++ KI X.γ a) (bits) ((k : Int)) (by omega) (by omega)) rfl ok_X11_isIn rfl rfl rfl rfl dX1_payOf_14 (fun r w1 hp => ?_)
        obtain ⟨rfl, rfl⟩ := hp
        refine x_ifeq_bz C 33 (by decide) dX1_payOf_17 (fun c_17 => ?_) (fun c_17 => ?_)
        · refine x_iinc C 0 [(3, .int (iN ((k : Int) + 1))), (2, .int (iN (v2_4))), (0, .ref (a 0)), (1, .int (iN (bits)))] rfl rfl (by decide) rfl dX1_payOf_33 ?_
          refine x_goto C 4 (by decide) dX1_payOf_36 ?_
          exact ih4 (k + 1) _ _ (by omega) (by omega) (by omega) (by simp only [sumz]; rw [if_neg c_17, e2_4]; omega)
        · refine x_iload_n C 1 rfl rfl dX1_payOf_20 ?_
          refine x_aload_n C 2 rfl rfl dX1_payOf_21 ?_
          refine x_iload_n C 0 rfl rfl dX1_payOf_22 ?_
          refine x_V_I C (As := [.int (iN ((k : Int)))]) (rest := [.int (iN (v2_4))]) 1 0 rfl rfl gX1_payOf_X1_shownAge rfl (c_X1_shownAge _ _ a C0 hW ((k : Int)) (by omega)) rfl ok_X1_shownAge rfl rfl rfl rfl dX1_payOf_23 (fun r w1 hp => ?_)
          obtain ⟨rfl, rfl⟩ := hp
          have b47 := shF_b (k := Ct.kd C0 ((k : Int))) (WFc.fg hW ((k : Int))) (WFc.ag hW ((k : Int)))
          refine x_bipush C (10) (by decide) dX1_payOf_26 ?_
          refine x_idiv C (by omega) dX1_payOf_28 ?_
          refine x_iconst (v := 0) C dX1_payOf_29 ?_
          refine x_iadd C dX1_payOf_30 ?_
          refine x_iadd C dX1_payOf_31 ?_
          refine x_istore_n C [(2, .int (iN (v2_4 + (((shF (Ct.kd C0 ((k : Int))) (Ct.fg C0 ((k : Int))) (Ct.ag C0 ((k : Int)))) / 10) + 1)))), (3, .int (iN ((k : Int)))), (0, .ref (a 0)), (1, .int (iN (bits)))] rfl (by decide) rfl dX1_payOf_32 ?_
          refine x_iinc C 1 [(3, .int (iN ((k : Int) + 1))), (2, .int (iN (v2_4 + (((shF (Ct.kd C0 ((k : Int))) (Ct.fg C0 ((k : Int))) (Ct.ag C0 ((k : Int)))) / 10) + 1)))), (0, .ref (a 0)), (1, .int (iN (bits)))] rfl rfl (by decide) rfl dX1_payOf_33 ?_
          refine x_goto C 4 (by decide) dX1_payOf_36 ?_
          exact ih4 (k + 1) _ _ (by omega) (by omega) (by omega) (by simp only [sumz]; rw [if_pos c_17, e2_4])
  exact LP4 (((Ct.n C0).toNat - (0)) + 1) (0) _ _ (by omega) (by omega) (by omega) (rfl)
theorem in_X1_addWalker_X1 : ∀ w ∈ u_ws RX1 TX1 13, w ∈ wsX1_addWalker := by decide +kernel
theorem ok_X1_addWalker : okY yX1_addWalker 4 := by decide +kernel
def rmX1_addWalker : Room := { frames := 4, cells := 0, slots := 0, locals := 106 }
set_option maxRecDepth 100000 in
set_option maxHeartbeats 4000000 in
theorem c_X1_addWalker (l : Launch) (γ : GX) (a : Nat → Nat) (C0 : Ct) (hW : WFc C0) (k : Int) (fg : Int) (ag : Int) (cell : Int) (h0_ : -2147483648 ≤ k ∧ k < 2147483648) (h1_ : -2147483648 ≤ fg ∧ fg < 2147483648) (h2_ : -2147483648 ≤ ag ∧ ag < 2147483648) (h3_ : -2147483648 ≤ cell ∧ cell < 2147483648) : MI l γ yX1_addWalker wsX1_addWalker rmX1_addWalker [.ref (a 0), .int (iN (k)), .int (iN (fg)), .int (iN (ag)), .int (iN (cell))] (CT γ a C0 ++ KI γ a) (fun r_ w_ => ((Ct.n C0 < 6 ∧ (0 ≤ cell ∧ cell ≤ 14) ∧ (0 ≤ k ∧ k ≤ 7) ∧ (0 ≤ fg ∧ fg ≤ 9) ∧ 0 ≤ ag ∧ ag ≤ 120) ∧ r_ = 1 ∧ w_ = CT γ a (Ct.set_n (Ct.set_wy (Ct.set_po (Ct.set_sr (Ct.set_sp (Ct.set_pr (Ct.set_ag (Ct.set_fg (Ct.set_kd C0 (upz (Ct.kd C0) (Ct.n C0) k)) (upz (Ct.fg C0) (Ct.n C0) fg)) (upz (Ct.ag C0) (Ct.n C0) ag)) (upz (Ct.pr C0) (Ct.n C0) (prF k fg ag))) (upz (Ct.sp C0) (Ct.n C0) (spF k))) (upz (Ct.sr C0) (Ct.n C0) (srF k fg))) (upz (Ct.po C0) (Ct.n C0) cell)) (upz (Ct.wy C0) (Ct.n C0) 0)) (Ct.n C0 + 1)) ++ KI γ a) ∨ (¬ (Ct.n C0 < 6 ∧ (0 ≤ cell ∧ cell ≤ 14) ∧ (0 ≤ k ∧ k ≤ 7) ∧ (0 ≤ fg ∧ fg ≤ 9) ∧ 0 ≤ ag ∧ ag ≤ 120) ∧ r_ = 0 ∧ w_ = CT γ a C0 ++ KI γ a)) 0 0 := by
  refine MI.of (cc := cX1_addWalker) (maxL := 5) (rt := .boolean) RX1 rfl (by decide +kernel) rfl (Nat.le_of_ble_eq_true rfl) ?_
  intro X C hγ hl hnm hret
  subst hγ
  have hWn := WFc.n hW
  show Wx X 0 0 (CT X.γ a C0 ++ KI X.γ a) 0 [(0, .ref (a 0)), (1, .int (iN (k))), (2, .int (iN (fg))), (3, .int (iN (ag))), (4, .int (iN (cell)))] []
  refine x_aload_n C 0 rfl rfl dX1_addWalker_0 ?_
  refine x_get C in_X1_addWalker_X1 0 rfl rfl 2 (by decide) (List.mem_of_getElem? (i := 1) rfl) rfl (v := .int (iN (Ct.n C0))) rfl dX1_addWalker_1 ?_
  refine x_bipush C (6) (by decide) dX1_addWalker_4 ?_
  refine x_icmp_ge C 17 (by decide) (by omega) dX1_addWalker_6 (fun c_6 => ?_) (fun c_6 => ?_)
  · refine x_iconst (v := 0) C dX1_addWalker_17 ?_
    exact hret _ _ _ _ dX1_addWalker_18 (nar_z (by decide)) (Or.inr ⟨(by omega), rfl, rfl⟩)
  · refine x_iload C 4 rfl dX1_addWalker_9 ?_
    refine x_N_I C (As := [.int (iN (cell))]) (rest := []) (host := RX11) 1 gX1_addWalker_X11_isCell_n69 (List.mem_of_getElem? (i := 2) rfl) (List.mem_of_getElem? (i := 5) rfl) (List.mem_of_getElem? (i := 4) rfl) (c_X11_isCell _ _ (CT X.γ a C0 ++ KI X.γ a) (cell) (by omega)) rfl ok_X11_isCell rfl rfl rfl rfl dX1_addWalker_11 (fun r w1 hp => ?_)
    obtain ⟨rfl, rfl⟩ := hp
    refine x_ifne_bz C 19 (by decide) dX1_addWalker_14 (fun c_14 => ?_) (fun c_14 => ?_)
    · refine x_aload_n C 0 rfl rfl dX1_addWalker_19 ?_
      refine x_aload_n C 0 rfl rfl dX1_addWalker_20 ?_
      refine x_get C in_X1_addWalker_X1 0 rfl rfl 2 (by decide) (List.mem_of_getElem? (i := 1) rfl) rfl (v := .int (iN (Ct.n C0))) rfl dX1_addWalker_21 ?_
      refine x_iload_n C 1 rfl rfl dX1_addWalker_24 ?_
      refine x_iload_n C 2 rfl rfl dX1_addWalker_25 ?_
      refine x_iload_n C 3 rfl rfl dX1_addWalker_26 ?_
      refine x_V_I C (As := [.int (iN (Ct.n C0)), .int (iN (k)), .int (iN (fg)), .int (iN (ag))]) (rest := []) 4 0 rfl rfl gX1_addWalker_X1_setNature rfl (c_X1_setNature _ _ a C0 hW (Ct.n C0) (k) (fg) (ag) (by omega) (by omega) (by omega) (by omega)) rfl ok_X1_setNature rfl rfl rfl rfl dX1_addWalker_27 (fun r w1 hp => ?_)
      rcases hp with ⟨hp1, rfl, rfl⟩ | ⟨hp1, rfl, rfl⟩
      · refine x_if_ne C 35 (by decide) (by decide) dX1_addWalker_30 (fun _ => ?_) (fun z => absurd z (by decide))
        refine x_aload_n C 0 rfl rfl dX1_addWalker_35 ?_
        refine x_get C in_X1_addWalker_X1 0 rfl rfl 7 (by decide) (List.mem_of_getElem? (i := 2) rfl) rfl (v := .ref (a 5)) rfl dX1_addWalker_36 ?_
        refine x_aload_n C 0 rfl rfl dX1_addWalker_39 ?_
        refine x_get C in_X1_addWalker_X1 0 rfl rfl 2 (by decide) (List.mem_of_getElem? (i := 1) rfl) rfl (v := .int (iN (Ct.n C0))) rfl dX1_addWalker_40 ?_
        refine x_iload C 4 rfl dX1_addWalker_43 ?_
        refine x_iastore C (f := Ct.po C0) 5 rfl (by omega) rfl (CT X.γ a (Ct.set_sr (Ct.set_sp (Ct.set_pr (Ct.set_po (Ct.set_ag (Ct.set_fg (Ct.set_kd C0 (upz (Ct.kd C0) (Ct.n C0) k)) (upz (Ct.fg C0) (Ct.n C0) fg)) (upz (Ct.ag C0) (Ct.n C0) ag)) (upz (Ct.po C0) (Ct.n C0) cell)) (upz (Ct.pr C0) (Ct.n C0) (prF k fg ag))) (upz (Ct.sp C0) (Ct.n C0) (spF k))) (upz (Ct.sr C0) (Ct.n C0) (srF k fg))) ++ KI X.γ a) rfl dX1_addWalker_45 ?_
        refine x_aload_n C 0 rfl rfl dX1_addWalker_46 ?_
        refine x_get C in_X1_addWalker_X1 0 rfl rfl 8 (by decide) (List.mem_of_getElem? (i := 3) rfl) rfl (v := .ref (a 6)) rfl dX1_addWalker_47 ?_
        refine x_aload_n C 0 rfl rfl dX1_addWalker_50 ?_
        refine x_get C in_X1_addWalker_X1 0 rfl rfl 2 (by decide) (List.mem_of_getElem? (i := 1) rfl) rfl (v := .int (iN (Ct.n C0))) rfl dX1_addWalker_51 ?_
        refine x_iconst (v := 0) C dX1_addWalker_54 ?_
        refine x_iastore C (f := Ct.wy C0) 6 rfl (by omega) rfl (CT X.γ a (Ct.set_sr (Ct.set_sp (Ct.set_pr (Ct.set_wy (Ct.set_po (Ct.set_ag (Ct.set_fg (Ct.set_kd C0 (upz (Ct.kd C0) (Ct.n C0) k)) (upz (Ct.fg C0) (Ct.n C0) fg)) (upz (Ct.ag C0) (Ct.n C0) ag)) (upz (Ct.po C0) (Ct.n C0) cell)) (upz (Ct.wy C0) (Ct.n C0) 0)) (upz (Ct.pr C0) (Ct.n C0) (prF k fg ag))) (upz (Ct.sp C0) (Ct.n C0) (spF k))) (upz (Ct.sr C0) (Ct.n C0) (srF k fg))) ++ KI X.γ a) rfl dX1_addWalker_55 ?_
        refine x_aload_n C 0 rfl rfl dX1_addWalker_56 ?_
        refine x_dup C rfl dX1_addWalker_57 ?_
        refine x_get C in_X1_addWalker_X1 0 rfl rfl 2 (by decide) (List.mem_of_getElem? (i := 1) rfl) rfl (v := .int (iN (Ct.n C0))) rfl dX1_addWalker_58 ?_
        refine x_iconst (v := 0) C dX1_addWalker_61 ?_
        refine x_iadd C dX1_addWalker_62 ?_
        refine x_put C in_X1_addWalker_X1 tyX1 tyX1_ok nmX1 0 rfl rfl 2 (by decide) (List.mem_of_getElem? (i := 1) rfl) rfl rfl rfl rfl rfl (Nat.le_of_ble_eq_true rfl) (CT X.γ a (Ct.set_sr (Ct.set_sp (Ct.set_pr (Ct.set_wy (Ct.set_po (Ct.set_ag (Ct.set_fg (Ct.set_kd (Ct.set_n C0 ((Ct.n C0) + 1)) (upz (Ct.kd C0) (Ct.n C0) k)) (upz (Ct.fg C0) (Ct.n C0) fg)) (upz (Ct.ag C0) (Ct.n C0) ag)) (upz (Ct.po C0) (Ct.n C0) cell)) (upz (Ct.wy C0) (Ct.n C0) 0)) (upz (Ct.pr C0) (Ct.n C0) (prF k fg ag))) (upz (Ct.sp C0) (Ct.n C0) (spF k))) (upz (Ct.sr C0) (Ct.n C0) (srF k fg))) ++ KI X.γ a) rfl dX1_addWalker_63 ?_
        refine x_iconst (v := 0) C dX1_addWalker_66 ?_
        exact hret _ _ _ _ dX1_addWalker_67 (nar_z (by decide)) (Or.inl ⟨(by omega), rfl, rfl⟩)
      · refine x_if_ne C 35 (by decide) (by decide) dX1_addWalker_30 (fun z => absurd z (by decide)) (fun _ => ?_)
        refine x_iconst (v := 0) C dX1_addWalker_33 ?_
        exact hret _ _ _ _ dX1_addWalker_34 (nar_z (by decide)) (Or.inr ⟨(by omega), rfl, rfl⟩)
    · refine x_iconst (v := 0) C dX1_addWalker_17 ?_
      exact hret _ _ _ _ dX1_addWalker_18 (nar_z (by decide)) (Or.inr ⟨(by omega), rfl, rfl⟩)
theorem in_X1_become_X1 : ∀ w ∈ u_ws RX1 TX1 13, w ∈ wsX1_become := by decide +kernel
theorem ok_X1_become : okY yX1_become 1 := by decide +kernel
def rmX1_become : Room := { frames := 1, cells := 0, slots := 0, locals := 60 }
set_option maxRecDepth 100000 in
set_option maxHeartbeats 4000000 in
theorem c_X1_become (l : Launch) (γ : GX) (a b : Nat → Nat) (C0 D0 : Ct) : MV l γ yX1_become wsX1_become rmX1_become [.ref (a 0), .ref (b 0)] ((CT γ a C0) ++ (CT γ b D0)) (fun w_ => w_ = CT γ a (Ct.set_wa D0 (Ct.wa C0)) ++ CT γ b D0) 0 0 := by
  refine MV.of (cc := cX1_become) (maxL := 2) RX1 rfl (by decide +kernel) rfl (Nat.le_of_ble_eq_true rfl) ?_
  intro X C hγ hl hnm hret
  subst hγ
  show Wx X 0 0 ((CT X.γ a C0) ++ (CT X.γ b D0)) 0 [(0, .ref (a 0)), (1, .ref (b 0))] []
  refine x_aload_n C 0 rfl rfl dX1_become_0 ?_
  refine x_aload_n C 1 rfl rfl dX1_become_1 ?_
  refine x_get C in_X1_become_X1 11 rfl rfl 2 (by decide) (List.mem_of_getElem? (i := 1) rfl) rfl (v := .int (iN (Ct.n D0))) rfl dX1_become_2 ?_
  refine x_put C in_X1_become_X1 tyX1 tyX1_ok nmX1 0 rfl rfl 2 (by decide) (List.mem_of_getElem? (i := 1) rfl) rfl rfl rfl rfl rfl (Nat.le_of_ble_eq_true rfl) ((CT X.γ a (Ct.set_n C0 (Ct.n D0))) ++ (CT X.γ b D0)) rfl dX1_become_5 ?_
  refine x_aload_n C 0 rfl rfl dX1_become_8 ?_
  refine x_aload_n C 1 rfl rfl dX1_become_9 ?_
  refine x_get C in_X1_become_X1 11 rfl rfl 3 (by decide) (List.mem_of_getElem? (i := 2) rfl) rfl (v := .int (iN (Ct.dy D0))) rfl dX1_become_10 ?_
  refine x_put C in_X1_become_X1 tyX1 tyX1_ok nmX1 0 rfl rfl 3 (by decide) (List.mem_of_getElem? (i := 2) rfl) rfl rfl rfl rfl rfl (Nat.le_of_ble_eq_true rfl) ((CT X.γ a (Ct.set_dy (Ct.set_n C0 (Ct.n D0)) (Ct.dy D0))) ++ (CT X.γ b D0)) rfl dX1_become_13 ?_
  refine x_aload_n C 1 rfl rfl dX1_become_16 ?_
  refine x_get C in_X1_become_X1 11 rfl rfl 1 (by decide) (List.mem_of_getElem? (i := 3) rfl) rfl (v := .ref (b 1)) rfl dX1_become_17 ?_
  refine x_iconst (v := 0) C dX1_become_20 ?_
  refine x_aload_n C 0 rfl rfl dX1_become_21 ?_
  refine x_get C in_X1_become_X1 0 rfl rfl 1 (by decide) (List.mem_of_getElem? (i := 3) rfl) rfl (v := .ref (a 1)) rfl dX1_become_22 ?_
  refine x_iconst (v := 0) C dX1_become_25 ?_
  refine x_bipush C (15) (by decide) dX1_become_26 ?_
  refine x_copyI C (f := Ct.h D0) (g := Ct.h C0) (List.mem_of_getElem? (i := 4) rfl) (List.mem_of_getElem? (i := 5) rfl) (List.mem_of_getElem? (i := 6) rfl) (List.mem_of_getElem? (i := 7) rfl) 12 1 rfl rfl (by omega) ⟨rfl, rfl⟩ rfl ((CT X.γ a (Ct.set_dy (Ct.set_n (Ct.set_h C0 (cpz (Ct.h D0) (Ct.h C0) 0 0 15)) (Ct.n D0)) (Ct.dy D0))) ++ (CT X.γ b D0)) rfl dX1_become_28 ?_
  refine x_canonI (f := cpz (Ct.h D0) (Ct.h C0) 0 0 15) (g := Ct.h D0) 1 rfl (fun i h1 h2 => by unfold cpz; rw [if_pos (by omega)]; congr 1; omega) ((CT X.γ a (Ct.set_dy (Ct.set_n (Ct.set_h C0 (Ct.h D0)) (Ct.n D0)) (Ct.dy D0))) ++ (CT X.γ b D0)) rfl ?_
  refine x_aload_n C 1 rfl rfl dX1_become_31 ?_
  refine x_get C in_X1_become_X1 11 rfl rfl 4 (by decide) (List.mem_of_getElem? (i := 8) rfl) rfl (v := .ref (b 2)) rfl dX1_become_32 ?_
  refine x_iconst (v := 0) C dX1_become_35 ?_
  refine x_aload_n C 0 rfl rfl dX1_become_36 ?_
  refine x_get C in_X1_become_X1 0 rfl rfl 4 (by decide) (List.mem_of_getElem? (i := 8) rfl) rfl (v := .ref (a 2)) rfl dX1_become_37 ?_
  refine x_iconst (v := 0) C dX1_become_40 ?_
  refine x_bipush C (6) (by decide) dX1_become_41 ?_
  refine x_copyI C (f := Ct.kd D0) (g := Ct.kd C0) (List.mem_of_getElem? (i := 4) rfl) (List.mem_of_getElem? (i := 5) rfl) (List.mem_of_getElem? (i := 6) rfl) (List.mem_of_getElem? (i := 7) rfl) 13 2 rfl rfl (by omega) ⟨rfl, rfl⟩ rfl ((CT X.γ a (Ct.set_kd (Ct.set_dy (Ct.set_n (Ct.set_h C0 (Ct.h D0)) (Ct.n D0)) (Ct.dy D0)) (cpz (Ct.kd D0) (Ct.kd C0) 0 0 6))) ++ (CT X.γ b D0)) rfl dX1_become_43 ?_
  refine x_canonI (f := cpz (Ct.kd D0) (Ct.kd C0) 0 0 6) (g := Ct.kd D0) 2 rfl (fun i h1 h2 => by unfold cpz; rw [if_pos (by omega)]; congr 1; omega) ((CT X.γ a (Ct.set_kd (Ct.set_dy (Ct.set_n (Ct.set_h C0 (Ct.h D0)) (Ct.n D0)) (Ct.dy D0)) (Ct.kd D0))) ++ (CT X.γ b D0)) rfl ?_
  refine x_aload_n C 1 rfl rfl dX1_become_46 ?_
  refine x_get C in_X1_become_X1 11 rfl rfl 5 (by decide) (List.mem_of_getElem? (i := 9) rfl) rfl (v := .ref (b 3)) rfl dX1_become_47 ?_
  refine x_iconst (v := 0) C dX1_become_50 ?_
  refine x_aload_n C 0 rfl rfl dX1_become_51 ?_
  refine x_get C in_X1_become_X1 0 rfl rfl 5 (by decide) (List.mem_of_getElem? (i := 9) rfl) rfl (v := .ref (a 3)) rfl dX1_become_52 ?_
  refine x_iconst (v := 0) C dX1_become_55 ?_
  refine x_bipush C (6) (by decide) dX1_become_56 ?_
  refine x_copyI C (f := Ct.fg D0) (g := Ct.fg C0) (List.mem_of_getElem? (i := 4) rfl) (List.mem_of_getElem? (i := 5) rfl) (List.mem_of_getElem? (i := 6) rfl) (List.mem_of_getElem? (i := 7) rfl) 14 3 rfl rfl (by omega) ⟨rfl, rfl⟩ rfl ((CT X.γ a (Ct.set_fg (Ct.set_kd (Ct.set_dy (Ct.set_n (Ct.set_h C0 (Ct.h D0)) (Ct.n D0)) (Ct.dy D0)) (Ct.kd D0)) (cpz (Ct.fg D0) (Ct.fg C0) 0 0 6))) ++ (CT X.γ b D0)) rfl dX1_become_58 ?_
  refine x_canonI (f := cpz (Ct.fg D0) (Ct.fg C0) 0 0 6) (g := Ct.fg D0) 3 rfl (fun i h1 h2 => by unfold cpz; rw [if_pos (by omega)]; congr 1; omega) ((CT X.γ a (Ct.set_fg (Ct.set_kd (Ct.set_dy (Ct.set_n (Ct.set_h C0 (Ct.h D0)) (Ct.n D0)) (Ct.dy D0)) (Ct.kd D0)) (Ct.fg D0))) ++ (CT X.γ b D0)) rfl ?_
  refine x_aload_n C 1 rfl rfl dX1_become_61 ?_
  refine x_get C in_X1_become_X1 11 rfl rfl 6 (by decide) (List.mem_of_getElem? (i := 10) rfl) rfl (v := .ref (b 4)) rfl dX1_become_62 ?_
  refine x_iconst (v := 0) C dX1_become_65 ?_
  refine x_aload_n C 0 rfl rfl dX1_become_66 ?_
  refine x_get C in_X1_become_X1 0 rfl rfl 6 (by decide) (List.mem_of_getElem? (i := 10) rfl) rfl (v := .ref (a 4)) rfl dX1_become_67 ?_
  refine x_iconst (v := 0) C dX1_become_70 ?_
  refine x_bipush C (6) (by decide) dX1_become_71 ?_
  refine x_copyI C (f := Ct.ag D0) (g := Ct.ag C0) (List.mem_of_getElem? (i := 4) rfl) (List.mem_of_getElem? (i := 5) rfl) (List.mem_of_getElem? (i := 6) rfl) (List.mem_of_getElem? (i := 7) rfl) 15 4 rfl rfl (by omega) ⟨rfl, rfl⟩ rfl ((CT X.γ a (Ct.set_ag (Ct.set_fg (Ct.set_kd (Ct.set_dy (Ct.set_n (Ct.set_h C0 (Ct.h D0)) (Ct.n D0)) (Ct.dy D0)) (Ct.kd D0)) (Ct.fg D0)) (cpz (Ct.ag D0) (Ct.ag C0) 0 0 6))) ++ (CT X.γ b D0)) rfl dX1_become_73 ?_
  refine x_canonI (f := cpz (Ct.ag D0) (Ct.ag C0) 0 0 6) (g := Ct.ag D0) 4 rfl (fun i h1 h2 => by unfold cpz; rw [if_pos (by omega)]; congr 1; omega) ((CT X.γ a (Ct.set_ag (Ct.set_fg (Ct.set_kd (Ct.set_dy (Ct.set_n (Ct.set_h C0 (Ct.h D0)) (Ct.n D0)) (Ct.dy D0)) (Ct.kd D0)) (Ct.fg D0)) (Ct.ag D0))) ++ (CT X.γ b D0)) rfl ?_
  refine x_aload_n C 1 rfl rfl dX1_become_76 ?_
  refine x_get C in_X1_become_X1 11 rfl rfl 7 (by decide) (List.mem_of_getElem? (i := 11) rfl) rfl (v := .ref (b 5)) rfl dX1_become_77 ?_
  refine x_iconst (v := 0) C dX1_become_80 ?_
  refine x_aload_n C 0 rfl rfl dX1_become_81 ?_
  refine x_get C in_X1_become_X1 0 rfl rfl 7 (by decide) (List.mem_of_getElem? (i := 11) rfl) rfl (v := .ref (a 5)) rfl dX1_become_82 ?_
  refine x_iconst (v := 0) C dX1_become_85 ?_
  refine x_bipush C (6) (by decide) dX1_become_86 ?_
  refine x_copyI C (f := Ct.po D0) (g := Ct.po C0) (List.mem_of_getElem? (i := 4) rfl) (List.mem_of_getElem? (i := 5) rfl) (List.mem_of_getElem? (i := 6) rfl) (List.mem_of_getElem? (i := 7) rfl) 16 5 rfl rfl (by omega) ⟨rfl, rfl⟩ rfl ((CT X.γ a (Ct.set_po (Ct.set_ag (Ct.set_fg (Ct.set_kd (Ct.set_dy (Ct.set_n (Ct.set_h C0 (Ct.h D0)) (Ct.n D0)) (Ct.dy D0)) (Ct.kd D0)) (Ct.fg D0)) (Ct.ag D0)) (cpz (Ct.po D0) (Ct.po C0) 0 0 6))) ++ (CT X.γ b D0)) rfl dX1_become_88 ?_
  refine x_canonI (f := cpz (Ct.po D0) (Ct.po C0) 0 0 6) (g := Ct.po D0) 5 rfl (fun i h1 h2 => by unfold cpz; rw [if_pos (by omega)]; congr 1; omega) ((CT X.γ a (Ct.set_po (Ct.set_ag (Ct.set_fg (Ct.set_kd (Ct.set_dy (Ct.set_n (Ct.set_h C0 (Ct.h D0)) (Ct.n D0)) (Ct.dy D0)) (Ct.kd D0)) (Ct.fg D0)) (Ct.ag D0)) (Ct.po D0))) ++ (CT X.γ b D0)) rfl ?_
  refine x_aload_n C 1 rfl rfl dX1_become_91 ?_
  refine x_get C in_X1_become_X1 11 rfl rfl 8 (by decide) (List.mem_of_getElem? (i := 12) rfl) rfl (v := .ref (b 6)) rfl dX1_become_92 ?_
  refine x_iconst (v := 0) C dX1_become_95 ?_
  refine x_aload_n C 0 rfl rfl dX1_become_96 ?_
  refine x_get C in_X1_become_X1 0 rfl rfl 8 (by decide) (List.mem_of_getElem? (i := 12) rfl) rfl (v := .ref (a 6)) rfl dX1_become_97 ?_
  refine x_iconst (v := 0) C dX1_become_100 ?_
  refine x_bipush C (6) (by decide) dX1_become_101 ?_
  refine x_copyI C (f := Ct.wy D0) (g := Ct.wy C0) (List.mem_of_getElem? (i := 4) rfl) (List.mem_of_getElem? (i := 5) rfl) (List.mem_of_getElem? (i := 6) rfl) (List.mem_of_getElem? (i := 7) rfl) 17 6 rfl rfl (by omega) ⟨rfl, rfl⟩ rfl ((CT X.γ a (Ct.set_wy (Ct.set_po (Ct.set_ag (Ct.set_fg (Ct.set_kd (Ct.set_dy (Ct.set_n (Ct.set_h C0 (Ct.h D0)) (Ct.n D0)) (Ct.dy D0)) (Ct.kd D0)) (Ct.fg D0)) (Ct.ag D0)) (Ct.po D0)) (cpz (Ct.wy D0) (Ct.wy C0) 0 0 6))) ++ (CT X.γ b D0)) rfl dX1_become_103 ?_
  refine x_canonI (f := cpz (Ct.wy D0) (Ct.wy C0) 0 0 6) (g := Ct.wy D0) 6 rfl (fun i h1 h2 => by unfold cpz; rw [if_pos (by omega)]; congr 1; omega) ((CT X.γ a (Ct.set_wy (Ct.set_po (Ct.set_ag (Ct.set_fg (Ct.set_kd (Ct.set_dy (Ct.set_n (Ct.set_h C0 (Ct.h D0)) (Ct.n D0)) (Ct.dy D0)) (Ct.kd D0)) (Ct.fg D0)) (Ct.ag D0)) (Ct.po D0)) (Ct.wy D0))) ++ (CT X.γ b D0)) rfl ?_
  refine x_aload_n C 1 rfl rfl dX1_become_106 ?_
  refine x_get C in_X1_become_X1 11 rfl rfl 9 (by decide) (List.mem_of_getElem? (i := 13) rfl) rfl (v := .ref (b 7)) rfl dX1_become_107 ?_
  refine x_iconst (v := 0) C dX1_become_110 ?_
  refine x_aload_n C 0 rfl rfl dX1_become_111 ?_
  refine x_get C in_X1_become_X1 0 rfl rfl 9 (by decide) (List.mem_of_getElem? (i := 13) rfl) rfl (v := .ref (a 7)) rfl dX1_become_112 ?_
  refine x_iconst (v := 0) C dX1_become_115 ?_
  refine x_bipush C (6) (by decide) dX1_become_116 ?_
  refine x_copyI C (f := Ct.pr D0) (g := Ct.pr C0) (List.mem_of_getElem? (i := 4) rfl) (List.mem_of_getElem? (i := 5) rfl) (List.mem_of_getElem? (i := 6) rfl) (List.mem_of_getElem? (i := 7) rfl) 18 7 rfl rfl (by omega) ⟨rfl, rfl⟩ rfl ((CT X.γ a (Ct.set_pr (Ct.set_wy (Ct.set_po (Ct.set_ag (Ct.set_fg (Ct.set_kd (Ct.set_dy (Ct.set_n (Ct.set_h C0 (Ct.h D0)) (Ct.n D0)) (Ct.dy D0)) (Ct.kd D0)) (Ct.fg D0)) (Ct.ag D0)) (Ct.po D0)) (Ct.wy D0)) (cpz (Ct.pr D0) (Ct.pr C0) 0 0 6))) ++ (CT X.γ b D0)) rfl dX1_become_118 ?_
  refine x_canonI (f := cpz (Ct.pr D0) (Ct.pr C0) 0 0 6) (g := Ct.pr D0) 7 rfl (fun i h1 h2 => by unfold cpz; rw [if_pos (by omega)]; congr 1; omega) ((CT X.γ a (Ct.set_pr (Ct.set_wy (Ct.set_po (Ct.set_ag (Ct.set_fg (Ct.set_kd (Ct.set_dy (Ct.set_n (Ct.set_h C0 (Ct.h D0)) (Ct.n D0)) (Ct.dy D0)) (Ct.kd D0)) (Ct.fg D0)) (Ct.ag D0)) (Ct.po D0)) (Ct.wy D0)) (Ct.pr D0))) ++ (CT X.γ b D0)) rfl ?_
  refine x_aload_n C 1 rfl rfl dX1_become_121 ?_
  refine x_get C in_X1_become_X1 11 rfl rfl 10 (by decide) (List.mem_of_getElem? (i := 14) rfl) rfl (v := .ref (b 8)) rfl dX1_become_122 ?_
  refine x_iconst (v := 0) C dX1_become_125 ?_
  refine x_aload_n C 0 rfl rfl dX1_become_126 ?_
  refine x_get C in_X1_become_X1 0 rfl rfl 10 (by decide) (List.mem_of_getElem? (i := 14) rfl) rfl (v := .ref (a 8)) rfl dX1_become_127 ?_
  refine x_iconst (v := 0) C dX1_become_130 ?_
  refine x_bipush C (6) (by decide) dX1_become_131 ?_
  refine x_copyI C (f := Ct.sp D0) (g := Ct.sp C0) (List.mem_of_getElem? (i := 4) rfl) (List.mem_of_getElem? (i := 5) rfl) (List.mem_of_getElem? (i := 6) rfl) (List.mem_of_getElem? (i := 7) rfl) 19 8 rfl rfl (by omega) ⟨rfl, rfl⟩ rfl ((CT X.γ a (Ct.set_sp (Ct.set_pr (Ct.set_wy (Ct.set_po (Ct.set_ag (Ct.set_fg (Ct.set_kd (Ct.set_dy (Ct.set_n (Ct.set_h C0 (Ct.h D0)) (Ct.n D0)) (Ct.dy D0)) (Ct.kd D0)) (Ct.fg D0)) (Ct.ag D0)) (Ct.po D0)) (Ct.wy D0)) (Ct.pr D0)) (cpz (Ct.sp D0) (Ct.sp C0) 0 0 6))) ++ (CT X.γ b D0)) rfl dX1_become_133 ?_
  refine x_canonI (f := cpz (Ct.sp D0) (Ct.sp C0) 0 0 6) (g := Ct.sp D0) 8 rfl (fun i h1 h2 => by unfold cpz; rw [if_pos (by omega)]; congr 1; omega) ((CT X.γ a (Ct.set_sp (Ct.set_pr (Ct.set_wy (Ct.set_po (Ct.set_ag (Ct.set_fg (Ct.set_kd (Ct.set_dy (Ct.set_n (Ct.set_h C0 (Ct.h D0)) (Ct.n D0)) (Ct.dy D0)) (Ct.kd D0)) (Ct.fg D0)) (Ct.ag D0)) (Ct.po D0)) (Ct.wy D0)) (Ct.pr D0)) (Ct.sp D0))) ++ (CT X.γ b D0)) rfl ?_
  refine x_aload_n C 1 rfl rfl dX1_become_136 ?_
  refine x_get C in_X1_become_X1 11 rfl rfl 11 (by decide) (List.mem_of_getElem? (i := 15) rfl) rfl (v := .ref (b 9)) rfl dX1_become_137 ?_
  refine x_iconst (v := 0) C dX1_become_140 ?_
  refine x_aload_n C 0 rfl rfl dX1_become_141 ?_
  refine x_get C in_X1_become_X1 0 rfl rfl 11 (by decide) (List.mem_of_getElem? (i := 15) rfl) rfl (v := .ref (a 9)) rfl dX1_become_142 ?_
  refine x_iconst (v := 0) C dX1_become_145 ?_
  refine x_bipush C (6) (by decide) dX1_become_146 ?_
  refine x_copyI C (f := Ct.sr D0) (g := Ct.sr C0) (List.mem_of_getElem? (i := 4) rfl) (List.mem_of_getElem? (i := 5) rfl) (List.mem_of_getElem? (i := 6) rfl) (List.mem_of_getElem? (i := 7) rfl) 20 9 rfl rfl (by omega) ⟨rfl, rfl⟩ rfl ((CT X.γ a (Ct.set_sr (Ct.set_sp (Ct.set_pr (Ct.set_wy (Ct.set_po (Ct.set_ag (Ct.set_fg (Ct.set_kd (Ct.set_dy (Ct.set_n (Ct.set_h C0 (Ct.h D0)) (Ct.n D0)) (Ct.dy D0)) (Ct.kd D0)) (Ct.fg D0)) (Ct.ag D0)) (Ct.po D0)) (Ct.wy D0)) (Ct.pr D0)) (Ct.sp D0)) (cpz (Ct.sr D0) (Ct.sr C0) 0 0 6))) ++ (CT X.γ b D0)) rfl dX1_become_148 ?_
  refine x_canonI (f := cpz (Ct.sr D0) (Ct.sr C0) 0 0 6) (g := Ct.sr D0) 9 rfl (fun i h1 h2 => by unfold cpz; rw [if_pos (by omega)]; congr 1; omega) ((CT X.γ a (Ct.set_sr (Ct.set_sp (Ct.set_pr (Ct.set_wy (Ct.set_po (Ct.set_ag (Ct.set_fg (Ct.set_kd (Ct.set_dy (Ct.set_n (Ct.set_h C0 (Ct.h D0)) (Ct.n D0)) (Ct.dy D0)) (Ct.kd D0)) (Ct.fg D0)) (Ct.ag D0)) (Ct.po D0)) (Ct.wy D0)) (Ct.pr D0)) (Ct.sp D0)) (Ct.sr D0))) ++ (CT X.γ b D0)) rfl ?_
  exact hret _ _ _ dX1_become_151 rfl
end HCT2
