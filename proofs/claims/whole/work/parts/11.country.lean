section HCT
theorem in_X1_level_X1 : ∀ w ∈ u_ws RX1 TX1 13, w ∈ wsX1_level := by decide +kernel
theorem ok_X1_level : okY yX1_level 1 := by decide +kernel
def rmX1_level : Room := { frames := 0, cells := 0, slots := 0, locals := 0 }
set_option maxRecDepth 100000 in
set_option maxHeartbeats 4000000 in
theorem c_X1_level (l : Launch) (γ : GX) (a : Nat → Nat) (C0 : Ct) (hW : WFc C0) (cell : Int) (h0_ : 0 ≤ cell ∧ cell < 15) : MI l γ yX1_level wsX1_level rmX1_level [.ref (a 0), .int (iN (cell))] (CT γ a C0) (fun r_ w_ => r_ = (Ct.g C0 cell) ∧ w_ = CT γ a C0) 0 0 := by
  refine MI.of (cc := cX1_level) (maxL := 5) (rt := .int) RX1 rfl (by decide +kernel) rfl (Nat.le_of_ble_eq_true rfl) ?_
  intro X C hγ hl hnm hret
  subst hγ
  have hWn := WFc.n hW
  show Wx X 0 0 (CT X.γ a C0) 0 [(0, .ref (a 0)), (1, .int (iN (cell)))] []
  refine x_aload_n C 0 rfl rfl dX1_level_0 ?_
  refine x_get C in_X1_level_X1 0 rfl rfl 1 (by decide) (List.mem_of_getElem? (i := 1) rfl) rfl (v := .ref (a 1)) rfl dX1_level_1 ?_
  refine x_iload_n C 1 rfl rfl dX1_level_4 ?_
  refine x_iaload C (f := Ct.h C0) 1 rfl (by omega) rfl dX1_level_5 ?_
  have b1 := WFc.h hW (cell)
  refine x_istore_n C [(2, .int (iN (Ct.h C0 cell))), (0, .ref (a 0)), (1, .int (iN (cell)))] rfl (by decide) rfl dX1_level_6 ?_
  refine x_iconst (v := 0) C dX1_level_7 ?_
  refine x_istore_n C [(3, .int (iN (0))), (2, .int (iN (Ct.h C0 cell))), (0, .ref (a 0)), (1, .int (iN (cell)))] rfl (by decide) rfl dX1_level_8 ?_
  have LP9 : ∀ (f : Nat) (k : Nat) (v3_9 : Int) (v2_9 : Int), ((Ct.n C0).toNat - k < f) → (k ≤ (Ct.n C0).toNat) → (v3_9 = ((k : Int))) → (v2_9 = (Ct.h C0 cell - psm (Ct.po C0) (Ct.pr C0) (Ct.sp C0) cell k)) → Wx X 0 0 (CT X.γ a C0) 9 [(3, .int (iN (v3_9))), (2, .int (iN (v2_9))), (0, .ref (a 0)), (1, .int (iN (cell)))] [] := by
    intro f
    induction f with
    | zero => intro k v3_9 v2_9 hf; exact absurd hf (Nat.not_lt_zero _)
    | succ f ih9 =>
      intro k v3_9 v2_9 hf hk e3_9 e2_9
      subst e3_9
      have bp := psm_b (po := Ct.po C0) (sp := Ct.sp C0) (WFc.pr hW) cell k
      refine x_iload_n C 0 rfl rfl dX1_level_9 ?_
      refine x_aload_n C 2 rfl rfl dX1_level_10 ?_
      refine x_get C in_X1_level_X1 0 rfl rfl 2 (by decide) (List.mem_of_getElem? (i := 2) rfl) rfl (v := .int (iN (Ct.n C0))) rfl dX1_level_11 ?_
      refine x_icmp_ge C 88 (by decide) (by omega) dX1_level_14 (fun c_14 => ?_) (fun c_14 => ?_)
      · refine x_iload_n C 1 rfl rfl dX1_level_88 ?_
        refine x_if_ge C 96 (by decide) (by omega) dX1_level_89 (fun c_89 => ?_) (fun c_89 => ?_)
        · refine x_iload_n C 1 rfl rfl dX1_level_96 ?_
          exact hret _ _ _ _ dX1_level_97 rfl ⟨(by have hz : k = (Ct.n C0).toNat := (by omega); subst hz; simp only [Ct.g, gnd]; omega), rfl⟩
        · refine x_iconst (v := 0) C dX1_level_92 ?_
          refine x_goto C 97 (by decide) dX1_level_93 ?_
          exact hret _ _ _ _ dX1_level_97 rfl ⟨(by have hz : k = (Ct.n C0).toNat := (by omega); subst hz; simp only [Ct.g, gnd]; omega), rfl⟩
      · refine x_aload_n C 2 rfl rfl dX1_level_17 ?_
        refine x_get C in_X1_level_X1 0 rfl rfl 7 (by decide) (List.mem_of_getElem? (i := 3) rfl) rfl (v := .ref (a 5)) rfl dX1_level_18 ?_
        refine x_iload_n C 0 rfl rfl dX1_level_21 ?_
        refine x_iaload C (f := Ct.po C0) 5 rfl (by omega) rfl dX1_level_22 ?_
        have b2 := WFc.po hW ((k : Int))
        refine x_iload_n C 3 rfl rfl dX1_level_23 ?_
        have LP46 : ∀ (s0_46 : Int), (s0_46 = (if Ct.po C0 (k : Int) < cell then cell - Ct.po C0 (k : Int) else Ct.po C0 (k : Int) - cell)) → Wx X 0 0 (CT X.γ a C0) 46 [(3, .int (iN ((k : Int)))), (2, .int (iN (v2_9))), (0, .ref (a 0)), (1, .int (iN (cell)))] [.int (iN (s0_46))] := by
          intro s0_46 es0_46
          refine x_istore C [(4, .int (iN (s0_46))), (3, .int (iN ((k : Int)))), (2, .int (iN (v2_9))), (0, .ref (a 0)), (1, .int (iN (cell)))] (by decide) rfl dX1_level_46 ?_
          refine x_iload C 0 rfl dX1_level_48 ?_
          refine x_aload_n C 3 rfl rfl dX1_level_50 ?_
          refine x_get C in_X1_level_X1 0 rfl rfl 10 (by decide) (List.mem_of_getElem? (i := 4) rfl) rfl (v := .ref (a 8)) rfl dX1_level_51 ?_
          refine x_iload_n C 1 rfl rfl dX1_level_54 ?_
          refine x_iaload C (f := Ct.sp C0) 8 rfl (by omega) rfl dX1_level_55 ?_
          have b3 := WFc.sp hW ((k : Int))
          refine x_icmp_gt C 82 (by decide) (by omega) dX1_level_56 (fun c_56 => ?_) (fun c_56 => ?_)
          · refine x_iinc C 1 [(3, .int (iN ((k : Int) + 1))), (4, .int (iN (s0_46))), (2, .int (iN (v2_9))), (0, .ref (a 0)), (1, .int (iN (cell)))] rfl rfl (by decide) rfl dX1_level_82 ?_
            refine x_goto C 9 (by decide) dX1_level_85 ?_
            refine Wx.subL [0, 2, 3, 4] rfl ?_
            exact ih9 (k + 1) _ _ (by omega) (by omega) (by omega) (by simp only [psm, ones]; omega)
          · refine x_iload C 0 rfl dX1_level_59 ?_
            refine x_aload_n C 3 rfl rfl dX1_level_61 ?_
            refine x_get C in_X1_level_X1 0 rfl rfl 9 (by decide) (List.mem_of_getElem? (i := 5) rfl) rfl (v := .ref (a 7)) rfl dX1_level_62 ?_
            refine x_iload_n C 1 rfl rfl dX1_level_65 ?_
            refine x_iaload C (f := Ct.pr C0) 7 rfl (by omega) rfl dX1_level_66 ?_
            have b4 := WFc.pr hW ((k : Int))
            refine x_icmp_ge C 82 (by decide) (by omega) dX1_level_67 (fun c_67 => ?_) (fun c_67 => ?_)
            · refine x_iinc C 1 [(3, .int (iN ((k : Int) + 1))), (4, .int (iN (s0_46))), (2, .int (iN (v2_9))), (0, .ref (a 0)), (1, .int (iN (cell)))] rfl rfl (by decide) rfl dX1_level_82 ?_
              refine x_goto C 9 (by decide) dX1_level_85 ?_
              refine Wx.subL [0, 2, 3, 4] rfl ?_
              exact ih9 (k + 1) _ _ (by omega) (by omega) (by omega) (by simp only [psm, ones]; omega)
            · refine x_iload_n C 2 rfl rfl dX1_level_70 ?_
              refine x_aload_n C 3 rfl rfl dX1_level_71 ?_
              refine x_get C in_X1_level_X1 0 rfl rfl 9 (by decide) (List.mem_of_getElem? (i := 5) rfl) rfl (v := .ref (a 7)) rfl dX1_level_72 ?_
              refine x_iload_n C 1 rfl rfl dX1_level_75 ?_
              refine x_iaload C (f := Ct.pr C0) 7 rfl (by omega) rfl dX1_level_76 ?_
              have b5 := WFc.pr hW ((k : Int))
              refine x_iload C 0 rfl dX1_level_77 ?_
              refine x_isub C dX1_level_79 ?_
              refine x_isub C dX1_level_80 ?_
              refine x_istore_n C [(2, .int (iN (v2_9 - ((Ct.pr C0 (k : Int)) - s0_46)))), (4, .int (iN (s0_46))), (3, .int (iN ((k : Int)))), (0, .ref (a 0)), (1, .int (iN (cell)))] rfl (by decide) rfl dX1_level_81 ?_
              refine x_iinc C 2 [(3, .int (iN ((k : Int) + 1))), (2, .int (iN (v2_9 - ((Ct.pr C0 (k : Int)) - s0_46)))), (4, .int (iN (s0_46))), (0, .ref (a 0)), (1, .int (iN (cell)))] rfl rfl (by decide) rfl dX1_level_82 ?_
              refine x_goto C 9 (by decide) dX1_level_85 ?_
              refine Wx.subL [0, 1, 3, 4] rfl ?_
              exact ih9 (k + 1) _ _ (by omega) (by omega) (by omega) (by simp only [psm, ones]; omega)
        refine x_icmp_ge C 38 (by decide) (by omega) dX1_level_24 (fun c_24 => ?_) (fun c_24 => ?_)
        · refine x_aload_n C 2 rfl rfl dX1_level_38 ?_
          refine x_get C in_X1_level_X1 0 rfl rfl 7 (by decide) (List.mem_of_getElem? (i := 3) rfl) rfl (v := .ref (a 5)) rfl dX1_level_39 ?_
          refine x_iload_n C 0 rfl rfl dX1_level_42 ?_
          refine x_iaload C (f := Ct.po C0) 5 rfl (by omega) rfl dX1_level_43 ?_
          have b6 := WFc.po hW ((k : Int))
          refine x_iload_n C 3 rfl rfl dX1_level_44 ?_
          refine x_isub C dX1_level_45 ?_
          exact LP46 _ (by omega)
        · refine x_iload_n C 3 rfl rfl dX1_level_27 ?_
          refine x_aload_n C 2 rfl rfl dX1_level_28 ?_
          refine x_get C in_X1_level_X1 0 rfl rfl 7 (by decide) (List.mem_of_getElem? (i := 3) rfl) rfl (v := .ref (a 5)) rfl dX1_level_29 ?_
          refine x_iload_n C 0 rfl rfl dX1_level_32 ?_
          refine x_iaload C (f := Ct.po C0) 5 rfl (by omega) rfl dX1_level_33 ?_
          have b7 := WFc.po hW ((k : Int))
          refine x_isub C dX1_level_34 ?_
          refine x_goto C 46 (by decide) dX1_level_35 ?_
          exact LP46 _ (by omega)
  exact LP9 (((Ct.n C0).toNat - (0)) + 1) (0) _ _ (by omega) (by omega) (by omega) (by simp only [psm]; omega)
theorem in_X1_has_X1 : ∀ w ∈ u_ws RX1 TX1 13, w ∈ wsX1_has := by decide +kernel
theorem ok_X1_has : okY yX1_has 1 := by decide +kernel
def rmX1_has : Room := { frames := 1, cells := 0, slots := 0, locals := 22 }
set_option maxRecDepth 100000 in
set_option maxHeartbeats 4000000 in
theorem c_X1_has (l : Launch) (γ : GX) (a : Nat → Nat) (C0 : Ct) (hW : WFc C0) (i : Int) (h0_ : -2147483648 ≤ i ∧ i < 2147483648) : MI l γ yX1_has wsX1_has rmX1_has [.ref (a 0), .int (iN (i))] (CT γ a C0) (fun r_ w_ => r_ = (bz (0 ≤ i ∧ i ≤ Ct.n C0 - 1)) ∧ w_ = CT γ a C0) 0 0 := by
  refine MI.of (cc := cX1_has) (maxL := 2) (rt := .boolean) RX1 rfl (by decide +kernel) rfl (Nat.le_of_ble_eq_true rfl) ?_
  intro X C hγ hl hnm hret
  subst hγ
  have hWn := WFc.n hW
  show Wx X 0 0 (CT X.γ a C0) 0 [(0, .ref (a 0)), (1, .int (iN (i)))] []
  refine x_iload_n C 1 rfl rfl dX1_has_0 ?_
  refine x_iconst (v := 0) C dX1_has_1 ?_
  refine x_aload_n C 0 rfl rfl dX1_has_2 ?_
  refine x_get C in_X1_has_X1 0 rfl rfl 2 (by decide) (List.mem_of_getElem? (i := 1) rfl) rfl (v := .int (iN (Ct.n C0))) rfl dX1_has_3 ?_
  refine x_iconst (v := 0) C dX1_has_6 ?_
  refine x_isub C dX1_has_7 ?_
  refine x_N_I C (As := [.int (iN (i)), .int (iN (0)), .int (iN ((Ct.n C0) - 1))]) (rest := []) (host := RX11) 3 gX1_has_X11_isWithin_n65 (List.mem_of_getElem? (i := 3) rfl) (List.mem_of_getElem? (i := 3) rfl) (List.mem_of_getElem? (i := 2) rfl) (c_X11_isWithin _ _ (CT X.γ a C0) (i) (0) ((Ct.n C0) - 1) (by omega) (by omega) (by omega)) rfl ok_X11_isWithin rfl rfl rfl rfl dX1_has_8 (fun r w1 hp => ?_)
  obtain ⟨rfl, rfl⟩ := hp
  exact hret _ _ _ _ dX1_has_11 (nar_z (bz_01 _)) ⟨bz_iff (by omega), rfl⟩
theorem ok_X1_riseFrom : okY yX1_riseFrom 1 := by decide +kernel
def rmX1_riseFrom : Room := { frames := 1, cells := 0, slots := 0, locals := 24 }
set_option maxRecDepth 100000 in
set_option maxHeartbeats 4000000 in
theorem c_X1_riseFrom (l : Launch) (γ : GX) (a : Nat → Nat) (C0 : Ct) (hW : WFc C0) (cell : Int) (h0_ : 0 ≤ cell ∧ cell ≤ 13) : MI l γ yX1_riseFrom wsX1_riseFrom rmX1_riseFrom [.ref (a 0), .int (iN (cell))] (CT γ a C0) (fun r_ w_ => r_ = (Ct.g C0 (cell + 1) - Ct.g C0 cell) ∧ w_ = CT γ a C0) 0 0 := by
  refine MI.of (cc := cX1_riseFrom) (maxL := 2) (rt := .int) RX1 rfl (by decide +kernel) rfl (Nat.le_of_ble_eq_true rfl) ?_
  intro X C hγ hl hnm hret
  subst hγ
  have hWn := WFc.n hW
  show Wx X 0 0 (CT X.γ a C0) 0 [(0, .ref (a 0)), (1, .int (iN (cell)))] []
  refine x_aload_n C 0 rfl rfl dX1_riseFrom_0 ?_
  refine x_iload_n C 1 rfl rfl dX1_riseFrom_1 ?_
  refine x_iconst (v := 0) C dX1_riseFrom_2 ?_
  refine x_iadd C dX1_riseFrom_3 ?_
  refine x_V_I C (As := [.int (iN (cell + 1))]) (rest := []) 1 0 rfl rfl gX1_riseFrom_X1_level rfl (c_X1_level _ _ a C0 hW (cell + 1) (by omega)) rfl ok_X1_level rfl rfl rfl rfl dX1_riseFrom_4 (fun r w1 hp => ?_)
  obtain ⟨rfl, rfl⟩ := hp
  have b8 := WFc.g hW (cell + 1)
  refine x_aload_n C 0 rfl rfl dX1_riseFrom_7 ?_
  refine x_iload_n C 1 rfl rfl dX1_riseFrom_8 ?_
  refine x_V_I C (As := [.int (iN (cell))]) (rest := [.int (iN (Ct.g C0 (cell + 1)))]) 1 0 rfl rfl gX1_riseFrom_X1_level rfl (c_X1_level _ _ a C0 hW (cell) (by omega)) rfl ok_X1_level rfl rfl rfl rfl dX1_riseFrom_9 (fun r w1 hp => ?_)
  obtain ⟨rfl, rfl⟩ := hp
  have b9 := WFc.g hW (cell)
  refine x_isub C dX1_riseFrom_12 ?_
  exact hret _ _ _ _ dX1_riseFrom_13 rfl ⟨rfl, rfl⟩
theorem ok_X1_steepness : okY yX1_steepness 1 := by decide +kernel
def rmX1_steepness : Room := { frames := 2, cells := 0, slots := 0, locals := 60 }
set_option maxRecDepth 100000 in
set_option maxHeartbeats 4000000 in
theorem c_X1_steepness (l : Launch) (γ : GX) (a : Nat → Nat) (C0 : Ct) (hW : WFc C0) (cell : Int) (h0_ : 0 ≤ cell ∧ cell ≤ 13) : MI l γ yX1_steepness wsX1_steepness rmX1_steepness [.ref (a 0), .int (iN (cell))] (CT γ a C0) (fun r_ w_ => r_ = (Ct.s C0 cell) ∧ w_ = CT γ a C0) 0 0 := by
  refine MI.of (cc := cX1_steepness) (maxL := 2) (rt := .int) RX1 rfl (by decide +kernel) rfl (Nat.le_of_ble_eq_true rfl) ?_
  intro X C hγ hl hnm hret
  subst hγ
  have hWn := WFc.n hW
  show Wx X 0 0 (CT X.γ a C0) 0 [(0, .ref (a 0)), (1, .int (iN (cell)))] []
  refine x_aload_n C 0 rfl rfl dX1_steepness_0 ?_
  refine x_iload_n C 1 rfl rfl dX1_steepness_1 ?_
  refine x_V_I C (As := [.int (iN (cell))]) (rest := []) 1 0 rfl rfl gX1_steepness_X1_riseFrom rfl (c_X1_riseFrom _ _ a C0 hW (cell) (by omega)) rfl ok_X1_riseFrom rfl rfl rfl rfl dX1_steepness_2 (fun r w1 hp => ?_)
  obtain ⟨rfl, rfl⟩ := hp
  have b0_ := WFc.g hW cell
  have b1_ := WFc.g hW (cell + 1)
  refine x_abs C (List.mem_of_getElem? (i := 1) rfl) (List.mem_of_getElem? (i := 2) rfl) (List.mem_of_getElem? (i := 3) rfl) (List.mem_of_getElem? (i := 4) rfl) (by omega) rfl dX1_steepness_5 ?_
  exact hret _ _ _ _ dX1_steepness_8 rfl ⟨rfl, rfl⟩
theorem ok_X1_steepestCell : okY yX1_steepestCell 0 := by decide +kernel
def rmX1_steepestCell : Room := { frames := 3, cells := 0, slots := 0, locals := 81 }
set_option maxRecDepth 100000 in
set_option maxHeartbeats 4000000 in
theorem c_X1_steepestCell (l : Launch) (γ : GX) (a : Nat → Nat) (C0 : Ct) (hW : WFc C0) : MI l γ yX1_steepestCell wsX1_steepestCell rmX1_steepestCell [.ref (a 0)] (CT γ a C0) (fun r_ w_ => r_ = (stpc (Ct.s C0) 13) ∧ w_ = CT γ a C0) 0 0 := by
  refine MI.of (cc := cX1_steepestCell) (maxL := 5) (rt := .int) RX1 rfl (by decide +kernel) rfl (Nat.le_of_ble_eq_true rfl) ?_
  intro X C hγ hl hnm hret
  subst hγ
  have hWn := WFc.n hW
  show Wx X 0 0 (CT X.γ a C0) 0 [(0, .ref (a 0))] []
  refine x_iconst (v := 0) C dX1_steepestCell_0 ?_
  refine x_istore_n C [(1, .int (iN (0))), (0, .ref (a 0))] rfl (by decide) rfl dX1_steepestCell_1 ?_
  refine x_aload_n C 1 rfl rfl dX1_steepestCell_2 ?_
  refine x_iconst (v := 0) C dX1_steepestCell_3 ?_
  refine x_V_I C (As := [.int (iN (0))]) (rest := []) 1 0 rfl rfl gX1_steepestCell_X1_steepness rfl (c_X1_steepness _ _ a C0 hW (0) (by omega)) rfl ok_X1_steepness rfl rfl rfl rfl dX1_steepestCell_4 (fun r w1 hp => ?_)
  obtain ⟨rfl, rfl⟩ := hp
  have b10 := WFc.s hW 0
  refine x_istore_n C [(2, .int (iN (Ct.s C0 0))), (1, .int (iN (0))), (0, .ref (a 0))] rfl (by decide) rfl dX1_steepestCell_7 ?_
  refine x_iconst (v := 0) C dX1_steepestCell_8 ?_
  refine x_istore_n C [(3, .int (iN (1))), (2, .int (iN (Ct.s C0 0))), (1, .int (iN (0))), (0, .ref (a 0))] rfl (by decide) rfl dX1_steepestCell_9 ?_
  have LP10 : ∀ (f : Nat) (k : Nat) (v3_10 : Int) (v2_10 : Int) (v1_10 : Int), (13 - k < f) → (k ≤ 13) → (v3_10 = ((k : Int) + 1)) → (v2_10 = (Ct.s C0 (stpc (Ct.s C0) k))) → (v1_10 = (stpc (Ct.s C0) k)) → Wx X 0 0 (CT X.γ a C0) 10 [(3, .int (iN (v3_10))), (2, .int (iN (v2_10))), (1, .int (iN (v1_10))), (0, .ref (a 0))] [] := by
    intro f
    induction f with
    | zero => intro k v3_10 v2_10 v1_10 hf; exact absurd hf (Nat.not_lt_zero _)
    | succ f ih10 =>
      intro k v3_10 v2_10 v1_10 hf hk e3_10 e2_10 e1_10
      subst e3_10
      have bq := stpc_b (Ct.s C0) k
      have br := WFc.s hW (stpc (Ct.s C0) k)
      refine x_iload_n C 0 rfl rfl dX1_steepestCell_10 ?_
      refine x_bipush C (14) (by decide) dX1_steepestCell_11 ?_
      refine x_icmp_ge C 40 (by decide) (by omega) dX1_steepestCell_13 (fun c_13 => ?_) (fun c_13 => ?_)
      · refine x_iload_n C 2 rfl rfl dX1_steepestCell_40 ?_
        exact hret _ _ _ _ dX1_steepestCell_41 rfl ⟨(by have hz : k = 13 := (by omega); subst hz; omega), rfl⟩
      · refine x_aload_n C 3 rfl rfl dX1_steepestCell_16 ?_
        refine x_iload_n C 0 rfl rfl dX1_steepestCell_17 ?_
        refine x_V_I C (As := [.int (iN ((k : Int) + 1))]) (rest := []) 1 0 rfl rfl gX1_steepestCell_X1_steepness rfl (c_X1_steepness _ _ a C0 hW ((k : Int) + 1) (by omega)) rfl ok_X1_steepness rfl rfl rfl rfl dX1_steepestCell_18 (fun r w1 hp => ?_)
        obtain ⟨rfl, rfl⟩ := hp
        have b11 := WFc.s hW ((k : Int) + 1)
        refine x_istore C [(4, .int (iN (Ct.s C0 ((k : Int) + 1)))), (3, .int (iN ((k : Int) + 1))), (2, .int (iN (v2_10))), (1, .int (iN (v1_10))), (0, .ref (a 0))] (by decide) rfl dX1_steepestCell_21 ?_
        refine x_iload C 0 rfl dX1_steepestCell_23 ?_
        refine x_iload_n C 2 rfl rfl dX1_steepestCell_25 ?_
        refine x_icmp_le C 34 (by decide) (by omega) dX1_steepestCell_26 (fun c_26 => ?_) (fun c_26 => ?_)
        · refine x_iinc C 1 [(3, .int (iN (((k : Int) + 1) + 1))), (4, .int (iN (Ct.s C0 ((k : Int) + 1)))), (2, .int (iN (v2_10))), (1, .int (iN (v1_10))), (0, .ref (a 0))] rfl rfl (by decide) rfl dX1_steepestCell_34 ?_
          refine x_goto C 10 (by decide) dX1_steepestCell_37 ?_
          refine Wx.subL [0, 2, 3, 4] rfl ?_
          exact ih10 (k + 1) _ _ _ (by omega) (by omega) (by omega) (by simp only [stpc]; rw [if_neg (by omega)]; exact e2_10) (by simp only [stpc]; omega)
        · refine x_iload C 0 rfl dX1_steepestCell_29 ?_
          refine x_istore_n C [(2, .int (iN (Ct.s C0 ((k : Int) + 1)))), (4, .int (iN (Ct.s C0 ((k : Int) + 1)))), (3, .int (iN ((k : Int) + 1))), (1, .int (iN (v1_10))), (0, .ref (a 0))] rfl (by decide) rfl dX1_steepestCell_31 ?_
          refine x_iload_n C 2 rfl rfl dX1_steepestCell_32 ?_
          refine x_istore_n C [(1, .int (iN ((k : Int) + 1))), (2, .int (iN (Ct.s C0 ((k : Int) + 1)))), (4, .int (iN (Ct.s C0 ((k : Int) + 1)))), (3, .int (iN ((k : Int) + 1))), (0, .ref (a 0))] rfl (by decide) rfl dX1_steepestCell_33 ?_
          refine x_iinc C 3 [(3, .int (iN (((k : Int) + 1) + 1))), (1, .int (iN ((k : Int) + 1))), (2, .int (iN (Ct.s C0 ((k : Int) + 1)))), (4, .int (iN (Ct.s C0 ((k : Int) + 1)))), (0, .ref (a 0))] rfl rfl (by decide) rfl dX1_steepestCell_34 ?_
          refine x_goto C 10 (by decide) dX1_steepestCell_37 ?_
          refine Wx.subL [0, 2, 1, 4] rfl ?_
          exact ih10 (k + 1) _ _ _ (by omega) (by omega) (by omega) (by simp only [stpc]; rw [if_pos (by omega)]) (by simp only [stpc]; omega)
  exact LP10 ((13 - (0)) + 1) (0) _ _ _ (by omega) (by omega) (rfl) (rfl) (rfl)
theorem ok_X1_flattestCell : okY yX1_flattestCell 0 := by decide +kernel
def rmX1_flattestCell : Room := { frames := 3, cells := 0, slots := 0, locals := 81 }
set_option maxRecDepth 100000 in
set_option maxHeartbeats 4000000 in
theorem c_X1_flattestCell (l : Launch) (γ : GX) (a : Nat → Nat) (C0 : Ct) (hW : WFc C0) : MI l γ yX1_flattestCell wsX1_flattestCell rmX1_flattestCell [.ref (a 0)] (CT γ a C0) (fun r_ w_ => r_ = (fltc (Ct.s C0) 13) ∧ w_ = CT γ a C0) 0 0 := by
  refine MI.of (cc := cX1_flattestCell) (maxL := 5) (rt := .int) RX1 rfl (by decide +kernel) rfl (Nat.le_of_ble_eq_true rfl) ?_
  intro X C hγ hl hnm hret
  subst hγ
  have hWn := WFc.n hW
  show Wx X 0 0 (CT X.γ a C0) 0 [(0, .ref (a 0))] []
  refine x_iconst (v := 0) C dX1_flattestCell_0 ?_
  refine x_istore_n C [(1, .int (iN (0))), (0, .ref (a 0))] rfl (by decide) rfl dX1_flattestCell_1 ?_
  refine x_aload_n C 1 rfl rfl dX1_flattestCell_2 ?_
  refine x_iconst (v := 0) C dX1_flattestCell_3 ?_
  refine x_V_I C (As := [.int (iN (0))]) (rest := []) 1 0 rfl rfl gX1_flattestCell_X1_steepness rfl (c_X1_steepness _ _ a C0 hW (0) (by omega)) rfl ok_X1_steepness rfl rfl rfl rfl dX1_flattestCell_4 (fun r w1 hp => ?_)
  obtain ⟨rfl, rfl⟩ := hp
  have b12 := WFc.s hW 0
  refine x_istore_n C [(2, .int (iN (Ct.s C0 0))), (1, .int (iN (0))), (0, .ref (a 0))] rfl (by decide) rfl dX1_flattestCell_7 ?_
  refine x_iconst (v := 0) C dX1_flattestCell_8 ?_
  refine x_istore_n C [(3, .int (iN (1))), (2, .int (iN (Ct.s C0 0))), (1, .int (iN (0))), (0, .ref (a 0))] rfl (by decide) rfl dX1_flattestCell_9 ?_
  have LP10 : ∀ (f : Nat) (k : Nat) (v3_10 : Int) (v2_10 : Int) (v1_10 : Int), (13 - k < f) → (k ≤ 13) → (v3_10 = ((k : Int) + 1)) → (v2_10 = (Ct.s C0 (fltc (Ct.s C0) k))) → (v1_10 = (fltc (Ct.s C0) k)) → Wx X 0 0 (CT X.γ a C0) 10 [(3, .int (iN (v3_10))), (2, .int (iN (v2_10))), (1, .int (iN (v1_10))), (0, .ref (a 0))] [] := by
    intro f
    induction f with
    | zero => intro k v3_10 v2_10 v1_10 hf; exact absurd hf (Nat.not_lt_zero _)
    | succ f ih10 =>
      intro k v3_10 v2_10 v1_10 hf hk e3_10 e2_10 e1_10
      subst e3_10
      have bq := fltc_b (Ct.s C0) k
      have br := WFc.s hW (fltc (Ct.s C0) k)
      refine x_iload_n C 0 rfl rfl dX1_flattestCell_10 ?_
      refine x_bipush C (14) (by decide) dX1_flattestCell_11 ?_
      refine x_icmp_ge C 40 (by decide) (by omega) dX1_flattestCell_13 (fun c_13 => ?_) (fun c_13 => ?_)
      · refine x_iload_n C 2 rfl rfl dX1_flattestCell_40 ?_
        exact hret _ _ _ _ dX1_flattestCell_41 rfl ⟨(by have hz : k = 13 := (by omega); subst hz; omega), rfl⟩
      · refine x_aload_n C 3 rfl rfl dX1_flattestCell_16 ?_
        refine x_iload_n C 0 rfl rfl dX1_flattestCell_17 ?_
        refine x_V_I C (As := [.int (iN ((k : Int) + 1))]) (rest := []) 1 0 rfl rfl gX1_flattestCell_X1_steepness rfl (c_X1_steepness _ _ a C0 hW ((k : Int) + 1) (by omega)) rfl ok_X1_steepness rfl rfl rfl rfl dX1_flattestCell_18 (fun r w1 hp => ?_)
        obtain ⟨rfl, rfl⟩ := hp
        have b13 := WFc.s hW ((k : Int) + 1)
        refine x_istore C [(4, .int (iN (Ct.s C0 ((k : Int) + 1)))), (3, .int (iN ((k : Int) + 1))), (2, .int (iN (v2_10))), (1, .int (iN (v1_10))), (0, .ref (a 0))] (by decide) rfl dX1_flattestCell_21 ?_
        refine x_iload C 0 rfl dX1_flattestCell_23 ?_
        refine x_iload_n C 2 rfl rfl dX1_flattestCell_25 ?_
        refine x_icmp_ge C 34 (by decide) (by omega) dX1_flattestCell_26 (fun c_26 => ?_) (fun c_26 => ?_)
        · refine x_iinc C 1 [(3, .int (iN (((k : Int) + 1) + 1))), (4, .int (iN (Ct.s C0 ((k : Int) + 1)))), (2, .int (iN (v2_10))), (1, .int (iN (v1_10))), (0, .ref (a 0))] rfl rfl (by decide) rfl dX1_flattestCell_34 ?_
          refine x_goto C 10 (by decide) dX1_flattestCell_37 ?_
          refine Wx.subL [0, 2, 3, 4] rfl ?_
          exact ih10 (k + 1) _ _ _ (by omega) (by omega) (by omega) (by simp only [fltc]; rw [if_neg (by omega)]; exact e2_10) (by simp only [fltc]; omega)
        · refine x_iload C 0 rfl dX1_flattestCell_29 ?_
          refine x_istore_n C [(2, .int (iN (Ct.s C0 ((k : Int) + 1)))), (4, .int (iN (Ct.s C0 ((k : Int) + 1)))), (3, .int (iN ((k : Int) + 1))), (1, .int (iN (v1_10))), (0, .ref (a 0))] rfl (by decide) rfl dX1_flattestCell_31 ?_
          refine x_iload_n C 2 rfl rfl dX1_flattestCell_32 ?_
          refine x_istore_n C [(1, .int (iN ((k : Int) + 1))), (2, .int (iN (Ct.s C0 ((k : Int) + 1)))), (4, .int (iN (Ct.s C0 ((k : Int) + 1)))), (3, .int (iN ((k : Int) + 1))), (0, .ref (a 0))] rfl (by decide) rfl dX1_flattestCell_33 ?_
          refine x_iinc C 3 [(3, .int (iN (((k : Int) + 1) + 1))), (1, .int (iN ((k : Int) + 1))), (2, .int (iN (Ct.s C0 ((k : Int) + 1)))), (4, .int (iN (Ct.s C0 ((k : Int) + 1)))), (0, .ref (a 0))] rfl rfl (by decide) rfl dX1_flattestCell_34 ?_
          refine x_goto C 10 (by decide) dX1_flattestCell_37 ?_
          refine Wx.subL [0, 2, 1, 4] rfl ?_
          exact ih10 (k + 1) _ _ _ (by omega) (by omega) (by omega) (by simp only [fltc]; rw [if_pos (by omega)]) (by simp only [fltc]; omega)
  exact LP10 ((13 - (0)) + 1) (0) _ _ _ (by omega) (by omega) (rfl) (rfl) (rfl)
theorem in_X1_mayGo_X1 : ∀ w ∈ u_ws RX1 TX1 13, w ∈ wsX1_mayGo := by decide +kernel
theorem ok_X1_mayGo : okY yX1_mayGo 2 := by decide +kernel
def rmX1_mayGo : Room := { frames := 2, cells := 0, slots := 0, locals := 42 }
set_option maxRecDepth 100000 in
set_option maxHeartbeats 4000000 in
theorem c_X1_mayGo (l : Launch) (γ : GX) (a : Nat → Nat) (C0 : Ct) (hW : WFc C0) (i : Int) (b : Int) (h0_ : 0 ≤ i ∧ i < 6) (h1_ : -1 ≤ b ∧ b ≤ 1) : MI l γ yX1_mayGo wsX1_mayGo rmX1_mayGo [.ref (a 0), .int (iN (i)), .int (iN (b))] (CT γ a C0) (fun r_ w_ => r_ = (bz (Ct.mg C0 i b)) ∧ w_ = CT γ a C0) 0 0 := by
  refine MI.of (cc := cX1_mayGo) (maxL := 4) (rt := .boolean) RX1 rfl (by decide +kernel) rfl (Nat.le_of_ble_eq_true rfl) ?_
  intro X C hγ hl hnm hret
  subst hγ
  have hWn := WFc.n hW
  show Wx X 0 0 (CT X.γ a C0) 0 [(0, .ref (a 0)), (1, .int (iN (i))), (2, .int (iN (b)))] []
  refine x_aload_n C 0 rfl rfl dX1_mayGo_0 ?_
  refine x_get C in_X1_mayGo_X1 0 rfl rfl 7 (by decide) (List.mem_of_getElem? (i := 1) rfl) rfl (v := .ref (a 5)) rfl dX1_mayGo_1 ?_
  refine x_iload_n C 1 rfl rfl dX1_mayGo_4 ?_
  refine x_iaload C (f := Ct.po C0) 5 rfl (by omega) rfl dX1_mayGo_5 ?_
  have b14 := WFc.po hW (i)
  refine x_iload_n C 2 rfl rfl dX1_mayGo_6 ?_
  refine x_iadd C dX1_mayGo_7 ?_
  refine x_istore_n C [(3, .int (iN ((Ct.po C0 i) + b))), (0, .ref (a 0)), (1, .int (iN (i))), (2, .int (iN (b)))] rfl (by decide) rfl dX1_mayGo_8 ?_
  refine x_iload_n C 0 rfl rfl dX1_mayGo_9 ?_
  refine x_N_I C (As := [.int (iN ((Ct.po C0 i) + b))]) (rest := []) (host := RX11) 1 gX1_mayGo_X11_isCell_n69 (List.mem_of_getElem? (i := 2) rfl) (List.mem_of_getElem? (i := 4) rfl) (List.mem_of_getElem? (i := 3) rfl) (c_X11_isCell _ _ (CT X.γ a C0) ((Ct.po C0 i) + b) (by omega)) rfl ok_X11_isCell rfl rfl rfl rfl dX1_mayGo_10 (fun r w1 hp => ?_)
  obtain ⟨rfl, rfl⟩ := hp
  refine x_ifeq_bz C 45 (by decide) dX1_mayGo_13 (fun c_13 => ?_) (fun c_13 => ?_)
  · refine x_iconst (v := 0) C dX1_mayGo_45 ?_
    exact hret _ _ _ _ dX1_mayGo_46 (nar_z (by decide)) ⟨(bz_f (by first | exact fun z => c_13 z.1 | exact fun z => absurd (show Ct.g C0 (Ct.po C0 i + b) - Ct.g C0 (Ct.po C0 i) ≤ Ct.sr C0 i from z.2) (by omega))).symm, rfl⟩
  · refine x_aload_n C 1 rfl rfl dX1_mayGo_16 ?_
    refine x_iload_n C 0 rfl rfl dX1_mayGo_17 ?_
    refine x_V_I C (As := [.int (iN ((Ct.po C0 i) + b))]) (rest := []) 1 0 rfl rfl gX1_mayGo_X1_level rfl (c_X1_level _ _ a C0 hW ((Ct.po C0 i) + b) (by omega)) rfl ok_X1_level rfl rfl rfl rfl dX1_mayGo_18 (fun r w1 hp => ?_)
    obtain ⟨rfl, rfl⟩ := hp
    have b15 := WFc.g hW ((Ct.po C0 i) + b)
    refine x_aload_n C 1 rfl rfl dX1_mayGo_21 ?_
    refine x_aload_n C 1 rfl rfl dX1_mayGo_22 ?_
    refine x_get C in_X1_mayGo_X1 0 rfl rfl 7 (by decide) (List.mem_of_getElem? (i := 1) rfl) rfl (v := .ref (a 5)) rfl dX1_mayGo_23 ?_
    refine x_iload_n C 2 rfl rfl dX1_mayGo_26 ?_
    refine x_iaload C (f := Ct.po C0) 5 rfl (by omega) rfl dX1_mayGo_27 ?_
    have b16 := WFc.po hW (i)
    refine x_V_I C (As := [.int (iN (Ct.po C0 i))]) (rest := [.int (iN (Ct.g C0 ((Ct.po C0 i) + b)))]) 1 0 rfl rfl gX1_mayGo_X1_level rfl (c_X1_level _ _ a C0 hW (Ct.po C0 i) (by omega)) rfl ok_X1_level rfl rfl rfl rfl dX1_mayGo_28 (fun r w1 hp => ?_)
    obtain ⟨rfl, rfl⟩ := hp
    have b17 := WFc.g hW (Ct.po C0 i)
    refine x_isub C dX1_mayGo_31 ?_
    refine x_aload_n C 1 rfl rfl dX1_mayGo_32 ?_
    refine x_get C in_X1_mayGo_X1 0 rfl rfl 11 (by decide) (List.mem_of_getElem? (i := 2) rfl) rfl (v := .ref (a 9)) rfl dX1_mayGo_33 ?_
    refine x_iload_n C 2 rfl rfl dX1_mayGo_36 ?_
    refine x_iaload C (f := Ct.sr C0) 9 rfl (by omega) rfl dX1_mayGo_37 ?_
    have b18 := WFc.sr hW (i)
    refine x_icmp_gt C 45 (by decide) (by omega) dX1_mayGo_38 (fun c_38 => ?_) (fun c_38 => ?_)
    · refine x_iconst (v := 0) C dX1_mayGo_45 ?_
      exact hret _ _ _ _ dX1_mayGo_46 (nar_z (by decide)) ⟨(bz_f (by first | exact fun z => c_13 z.1 | exact fun z => absurd (show Ct.g C0 (Ct.po C0 i + b) - Ct.g C0 (Ct.po C0 i) ≤ Ct.sr C0 i from z.2) (by omega))).symm, rfl⟩
    · refine x_iconst (v := 0) C dX1_mayGo_41 ?_
      refine x_goto C 46 (by decide) dX1_mayGo_42 ?_
      exact hret _ _ _ _ dX1_mayGo_46 (nar_z (by decide)) ⟨(bz_t ⟨c_13, (by omega)⟩).symm, rfl⟩
theorem in_X1_allHeight_X1 : ∀ w ∈ u_ws RX1 TX1 13, w ∈ wsX1_allHeight := by decide +kernel
theorem ok_X1_allHeight : okY yX1_allHeight 0 := by decide +kernel
def rmX1_allHeight : Room := { frames := 0, cells := 0, slots := 0, locals := 0 }
set_option maxRecDepth 100000 in
set_option maxHeartbeats 4000000 in
theorem c_X1_allHeight (l : Launch) (γ : GX) (a : Nat → Nat) (C0 : Ct) (hW : WFc C0) : MI l γ yX1_allHeight wsX1_allHeight rmX1_allHeight [.ref (a 0)] (CT γ a C0) (fun r_ w_ => r_ = (sumz (Ct.h C0) 15) ∧ w_ = CT γ a C0) 0 0 := by
  refine MI.of (cc := cX1_allHeight) (maxL := 3) (rt := .int) RX1 rfl (by decide +kernel) rfl (Nat.le_of_ble_eq_true rfl) ?_
  intro X C hγ hl hnm hret
  subst hγ
  have hWn := WFc.n hW
  show Wx X 0 0 (CT X.γ a C0) 0 [(0, .ref (a 0))] []
  refine x_iconst (v := 0) C dX1_allHeight_0 ?_
  refine x_istore_n C [(1, .int (iN (0))), (0, .ref (a 0))] rfl (by decide) rfl dX1_allHeight_1 ?_
  refine x_iconst (v := 0) C dX1_allHeight_2 ?_
  refine x_istore_n C [(2, .int (iN (0))), (1, .int (iN (0))), (0, .ref (a 0))] rfl (by decide) rfl dX1_allHeight_3 ?_
  have LP4 : ∀ (f : Nat) (k : Nat) (v2_4 : Int) (v1_4 : Int), (15 - k < f) → (k ≤ 15) → (v2_4 = ((k : Int))) → (v1_4 = (sumz (Ct.h C0) k)) → Wx X 0 0 (CT X.γ a C0) 4 [(2, .int (iN (v2_4))), (1, .int (iN (v1_4))), (0, .ref (a 0))] [] := by
    intro f
    induction f with
    | zero => intro k v2_4 v1_4 hf; exact absurd hf (Nat.not_lt_zero _)
    | succ f ih4 =>
      intro k v2_4 v1_4 hf hk e2_4 e1_4
      subst e2_4
      refine x_iload_n C 0 rfl rfl dX1_allHeight_4 ?_
      refine x_bipush C (15) (by decide) dX1_allHeight_5 ?_
      refine x_icmp_ge C 25 (by decide) (by omega) dX1_allHeight_7 (fun c_7 => ?_) (fun c_7 => ?_)
      · refine x_iload_n C 1 rfl rfl dX1_allHeight_25 ?_
        exact hret _ _ _ _ dX1_allHeight_26 rfl ⟨(by have hz : k = 15 := (by omega); subst hz; omega), rfl⟩
      · refine x_iload_n C 1 rfl rfl dX1_allHeight_10 ?_
        refine x_aload_n C 2 rfl rfl dX1_allHeight_11 ?_
        refine x_get C in_X1_allHeight_X1 0 rfl rfl 1 (by decide) (List.mem_of_getElem? (i := 1) rfl) rfl (v := .ref (a 1)) rfl dX1_allHeight_12 ?_
        refine x_iload_n C 0 rfl rfl dX1_allHeight_15 ?_
        refine x_iaload C (f := Ct.h C0) 1 rfl (by omega) rfl dX1_allHeight_16 ?_
        have b19 := WFc.h hW ((k : Int))
        refine x_iadd C dX1_allHeight_17 ?_
        refine x_istore_n C [(1, .int (iN (v1_4 + (Ct.h C0 (k : Int))))), (2, .int (iN ((k : Int)))), (0, .ref (a 0))] rfl (by decide) rfl dX1_allHeight_18 ?_
        refine x_iinc C 1 [(2, .int (iN ((k : Int) + 1))), (1, .int (iN (v1_4 + (Ct.h C0 (k : Int))))), (0, .ref (a 0))] rfl rfl (by decide) rfl dX1_allHeight_19 ?_
        refine x_goto C 4 (by decide) dX1_allHeight_22 ?_
        exact ih4 (k + 1) _ _ (by omega) (by omega) (by omega) (by simp only [sumz]; omega)
  exact LP4 ((15 - (0)) + 1) (0) _ _ (by omega) (by omega) (by omega) (rfl)
theorem ok_X1_allGround : okY yX1_allGround 0 := by decide +kernel
def rmX1_allGround : Room := { frames := 1, cells := 0, slots := 0, locals := 24 }
set_option maxRecDepth 100000 in
set_option maxHeartbeats 4000000 in
theorem c_X1_allGround (l : Launch) (γ : GX) (a : Nat → Nat) (C0 : Ct) (hW : WFc C0) : MI l γ yX1_allGround wsX1_allGround rmX1_allGround [.ref (a 0)] (CT γ a C0) (fun r_ w_ => r_ = (sumz (Ct.g C0) 15) ∧ w_ = CT γ a C0) 0 0 := by
  refine MI.of (cc := cX1_allGround) (maxL := 3) (rt := .int) RX1 rfl (by decide +kernel) rfl (Nat.le_of_ble_eq_true rfl) ?_
  intro X C hγ hl hnm hret
  subst hγ
  have hWn := WFc.n hW
  show Wx X 0 0 (CT X.γ a C0) 0 [(0, .ref (a 0))] []
  refine x_iconst (v := 0) C dX1_allGround_0 ?_
  refine x_istore_n C [(1, .int (iN (0))), (0, .ref (a 0))] rfl (by decide) rfl dX1_allGround_1 ?_
  refine x_iconst (v := 0) C dX1_allGround_2 ?_
  refine x_istore_n C [(2, .int (iN (0))), (1, .int (iN (0))), (0, .ref (a 0))] rfl (by decide) rfl dX1_allGround_3 ?_
  have LP4 : ∀ (f : Nat) (k : Nat) (v2_4 : Int) (v1_4 : Int), (15 - k < f) → (k ≤ 15) → (v2_4 = ((k : Int))) → (v1_4 = (sumz (Ct.g C0) k)) → Wx X 0 0 (CT X.γ a C0) 4 [(2, .int (iN (v2_4))), (1, .int (iN (v1_4))), (0, .ref (a 0))] [] := by
    intro f
    induction f with
    | zero => intro k v2_4 v1_4 hf; exact absurd hf (Nat.not_lt_zero _)
    | succ f ih4 =>
      intro k v2_4 v1_4 hf hk e2_4 e1_4
      subst e2_4
      refine x_iload_n C 0 rfl rfl dX1_allGround_4 ?_
      refine x_bipush C (15) (by decide) dX1_allGround_5 ?_
      refine x_icmp_ge C 24 (by decide) (by omega) dX1_allGround_7 (fun c_7 => ?_) (fun c_7 => ?_)
      · refine x_iload_n C 1 rfl rfl dX1_allGround_24 ?_
        exact hret _ _ _ _ dX1_allGround_25 rfl ⟨(by have hz : k = 15 := (by omega); subst hz; omega), rfl⟩
      · refine x_iload_n C 1 rfl rfl dX1_allGround_10 ?_
        refine x_aload_n C 2 rfl rfl dX1_allGround_11 ?_
        refine x_iload_n C 0 rfl rfl dX1_allGround_12 ?_
        refine x_V_I C (As := [.int (iN ((k : Int)))]) (rest := [.int (iN (v1_4))]) 1 0 rfl rfl gX1_allGround_X1_level rfl (c_X1_level _ _ a C0 hW ((k : Int)) (by omega)) rfl ok_X1_level rfl rfl rfl rfl dX1_allGround_13 (fun r w1 hp => ?_)
        obtain ⟨rfl, rfl⟩ := hp
        have b20 := WFc.g hW ((k : Int))
        refine x_iadd C dX1_allGround_16 ?_
        refine x_istore_n C [(1, .int (iN (v1_4 + (Ct.g C0 ((k : Int)))))), (2, .int (iN ((k : Int)))), (0, .ref (a 0))] rfl (by decide) rfl dX1_allGround_17 ?_
        refine x_iinc C 1 [(2, .int (iN ((k : Int) + 1))), (1, .int (iN (v1_4 + (Ct.g C0 ((k : Int)))))), (0, .ref (a 0))] rfl rfl (by decide) rfl dX1_allGround_18 ?_
        refine x_goto C 4 (by decide) dX1_allGround_21 ?_
        exact ih4 (k + 1) _ _ (by omega) (by omega) (by omega) (by simp only [sumz]; omega)
  exact LP4 ((15 - (0)) + 1) (0) _ _ (by omega) (by omega) (by omega) (rfl)
theorem in_X1_whoHasAWay_X1 : ∀ w ∈ u_ws RX1 TX1 13, w ∈ wsX1_whoHasAWay := by decide +kernel
theorem ok_X1_whoHasAWay : okY yX1_whoHasAWay 0 := by decide +kernel
def rmX1_whoHasAWay : Room := { frames := 0, cells := 0, slots := 0, locals := 0 }
set_option maxRecDepth 100000 in
set_option maxHeartbeats 4000000 in
theorem c_X1_whoHasAWay (l : Launch) (γ : GX) (a : Nat → Nat) (C0 : Ct) (hW : WFc C0) : MI l γ yX1_whoHasAWay wsX1_whoHasAWay rmX1_whoHasAWay [.ref (a 0)] (CT γ a C0) (fun r_ w_ => r_ = (bitz (fun i => Ct.wy C0 i ≠ 0) (Ct.n C0).toNat) ∧ w_ = CT γ a C0) 0 0 := by
  refine MI.of (cc := cX1_whoHasAWay) (maxL := 3) (rt := .int) RX1 rfl (by decide +kernel) rfl (Nat.le_of_ble_eq_true rfl) ?_
  intro X C hγ hl hnm hret
  subst hγ
  have hWn := WFc.n hW
  show Wx X 0 0 (CT X.γ a C0) 0 [(0, .ref (a 0))] []
  refine x_iconst (v := 0) C dX1_whoHasAWay_0 ?_
  refine x_istore_n C [(1, .int (iN (0))), (0, .ref (a 0))] rfl (by decide) rfl dX1_whoHasAWay_1 ?_
  refine x_iconst (v := 0) C dX1_whoHasAWay_2 ?_
  refine x_istore_n C [(2, .int (iN (0))), (1, .int (iN (0))), (0, .ref (a 0))] rfl (by decide) rfl dX1_whoHasAWay_3 ?_
  have LP4 : ∀ (f : Nat) (k : Nat) (v2_4 : Int) (v1_4 : Int), ((Ct.n C0).toNat - k < f) → (k ≤ (Ct.n C0).toNat) → (v2_4 = ((k : Int))) → (v1_4 = (bitz (fun i => Ct.wy C0 i ≠ 0) k)) → Wx X 0 0 (CT X.γ a C0) 4 [(2, .int (iN (v2_4))), (1, .int (iN (v1_4))), (0, .ref (a 0))] [] := by
    intro f
    induction f with
    | zero => intro k v2_4 v1_4 hf; exact absurd hf (Nat.not_lt_zero _)
    | succ f ih4 =>
      intro k v2_4 v1_4 hf hk e2_4 e1_4
      subst e2_4
      refine x_iload_n C 0 rfl rfl dX1_whoHasAWay_4 ?_
      refine x_aload_n C 2 rfl rfl dX1_whoHasAWay_5 ?_
      refine x_get C in_X1_whoHasAWay_X1 0 rfl rfl 2 (by decide) (List.mem_of_getElem? (i := 1) rfl) rfl (v := .int (iN (Ct.n C0))) rfl dX1_whoHasAWay_6 ?_
      refine x_icmp_ge C 33 (by decide) (by omega) dX1_whoHasAWay_9 (fun c_9 => ?_) (fun c_9 => ?_)
      · refine x_iload_n C 1 rfl rfl dX1_whoHasAWay_33 ?_
        exact hret _ _ _ _ dX1_whoHasAWay_34 rfl ⟨(by have hz : k = (Ct.n C0).toNat := (by omega); subst hz; exact e1_4), rfl⟩
      · refine x_aload_n C 2 rfl rfl dX1_whoHasAWay_12 ?_
        refine x_get C in_X1_whoHasAWay_X1 0 rfl rfl 8 (by decide) (List.mem_of_getElem? (i := 2) rfl) rfl (v := .ref (a 6)) rfl dX1_whoHasAWay_13 ?_
        refine x_iload_n C 0 rfl rfl dX1_whoHasAWay_16 ?_
        refine x_iaload C (f := Ct.wy C0) 6 rfl (by omega) rfl dX1_whoHasAWay_17 ?_
        have b21 := WFc.wy hW ((k : Int))
        refine x_if_eq C 27 (by decide) (by omega) dX1_whoHasAWay_18 (fun c_18 => ?_) (fun c_18 => ?_)
        · refine x_iinc C 0 [(2, .int (iN ((k : Int) + 1))), (1, .int (iN (v1_4))), (0, .ref (a 0))] rfl rfl (by decide) rfl dX1_whoHasAWay_27 ?_
          refine x_goto C 4 (by decide) dX1_whoHasAWay_30 ?_
          exact ih4 (k + 1) _ _ (by omega) (by omega) (by omega) (by simp only [bitz]; first | rw [if_pos c_18, e1_4] | rw [if_neg (fun z => z c_18), e1_4])
        · refine x_iload_n C 1 rfl rfl dX1_whoHasAWay_21 ?_
          refine x_iconst (v := 0) C dX1_whoHasAWay_22 ?_
          refine x_iload_n C 0 rfl rfl dX1_whoHasAWay_23 ?_
          refine x_ishl C (2 ^ k) (by rw [iN_shl1 (by omega), Int.toNat_natCast]) dX1_whoHasAWay_24 ?_
          refine x_ior C (v1_4 + 2 ^ k) (by rw [e1_4]; exact iN_orp (bitz_b (fun i => Ct.wy C0 i ≠ 0) k) (by omega)) dX1_whoHasAWay_25 ?_
          refine x_istore_n C [(1, .int (iN (v1_4 + 2 ^ k))), (2, .int (iN ((k : Int)))), (0, .ref (a 0))] rfl (by decide) rfl dX1_whoHasAWay_26 ?_
          refine x_iinc C 1 [(2, .int (iN ((k : Int) + 1))), (1, .int (iN (v1_4 + 2 ^ k))), (0, .ref (a 0))] rfl rfl (by decide) rfl dX1_whoHasAWay_27 ?_
          refine x_goto C 4 (by decide) dX1_whoHasAWay_30 ?_
          exact ih4 (k + 1) _ _ (by omega) (by omega) (by omega) (by simp only [bitz]; first | rw [if_pos c_18, e1_4] | rw [if_neg (fun z => z c_18), e1_4])
  exact LP4 (((Ct.n C0).toNat - (0)) + 1) (0) _ _ (by omega) (by omega) (by omega) (rfl)
theorem in_X1_howManyOnEdge_X1 : ∀ w ∈ u_ws RX1 TX1 13, w ∈ wsX1_howManyOnEdge := by decide +kernel
theorem ok_X1_howManyOnEdge : okY yX1_howManyOnEdge 0 := by decide +kernel
def rmX1_howManyOnEdge : Room := { frames := 0, cells := 0, slots := 0, locals := 0 }
set_option maxRecDepth 100000 in
set_option maxHeartbeats 4000000 in
theorem c_X1_howManyOnEdge (l : Launch) (γ : GX) (a : Nat → Nat) (C0 : Ct) (hW : WFc C0) : MI l γ yX1_howManyOnEdge wsX1_howManyOnEdge rmX1_howManyOnEdge [.ref (a 0)] (CT γ a C0) (fun r_ w_ => r_ = (sumz (edz (Ct.po C0)) (Ct.n C0).toNat) ∧ w_ = CT γ a C0) 0 0 := by
  refine MI.of (cc := cX1_howManyOnEdge) (maxL := 3) (rt := .int) RX1 rfl (by decide +kernel) rfl (Nat.le_of_ble_eq_true rfl) ?_
  intro X C hγ hl hnm hret
  subst hγ
  have hWn := WFc.n hW
  show Wx X 0 0 (CT X.γ a C0) 0 [(0, .ref (a 0))] []
  refine x_iconst (v := 0) C dX1_howManyOnEdge_0 ?_
  refine x_istore_n C [(1, .int (iN (0))), (0, .ref (a 0))] rfl (by decide) rfl dX1_howManyOnEdge_1 ?_
  refine x_iconst (v := 0) C dX1_howManyOnEdge_2 ?_
  refine x_istore_n C [(2, .int (iN (0))), (1, .int (iN (0))), (0, .ref (a 0))] rfl (by decide) rfl dX1_howManyOnEdge_3 ?_
  have LP4 : ∀ (f : Nat) (k : Nat) (v2_4 : Int) (v1_4 : Int), ((Ct.n C0).toNat - k < f) → (k ≤ (Ct.n C0).toNat) → (v2_4 = ((k : Int))) → (v1_4 = (sumz (edz (Ct.po C0)) k)) → Wx X 0 0 (CT X.γ a C0) 4 [(2, .int (iN (v2_4))), (1, .int (iN (v1_4))), (0, .ref (a 0))] [] := by
    intro f
    induction f with
    | zero => intro k v2_4 v1_4 hf; exact absurd hf (Nat.not_lt_zero _)
    | succ f ih4 =>
      intro k v2_4 v1_4 hf hk e2_4 e1_4
      subst e2_4
      refine x_iload_n C 0 rfl rfl dX1_howManyOnEdge_4 ?_
      refine x_aload_n C 2 rfl rfl dX1_howManyOnEdge_5 ?_
      refine x_get C in_X1_howManyOnEdge_X1 0 rfl rfl 2 (by decide) (List.mem_of_getElem? (i := 1) rfl) rfl (v := .int (iN (Ct.n C0))) rfl dX1_howManyOnEdge_6 ?_
      refine x_icmp_ge C 41 (by decide) (by omega) dX1_howManyOnEdge_9 (fun c_9 => ?_) (fun c_9 => ?_)
      · refine x_iload_n C 1 rfl rfl dX1_howManyOnEdge_41 ?_
        exact hret _ _ _ _ dX1_howManyOnEdge_42 rfl ⟨(by have hz : k = (Ct.n C0).toNat := (by omega); subst hz; exact e1_4), rfl⟩
      · refine x_aload_n C 2 rfl rfl dX1_howManyOnEdge_12 ?_
        refine x_get C in_X1_howManyOnEdge_X1 0 rfl rfl 7 (by decide) (List.mem_of_getElem? (i := 2) rfl) rfl (v := .ref (a 5)) rfl dX1_howManyOnEdge_13 ?_
        refine x_iload_n C 0 rfl rfl dX1_howManyOnEdge_16 ?_
        refine x_iaload C (f := Ct.po C0) 5 rfl (by omega) rfl dX1_howManyOnEdge_17 ?_
        have b22 := WFc.po hW ((k : Int))
        refine x_if_eq C 32 (by decide) (by omega) dX1_howManyOnEdge_18 (fun c_18 => ?_) (fun c_18 => ?_)
        · refine x_iinc C 1 [(1, .int (iN (v1_4 + 1))), (2, .int (iN ((k : Int)))), (0, .ref (a 0))] rfl rfl (by decide) rfl dX1_howManyOnEdge_32 ?_
          refine x_iinc C 1 [(2, .int (iN ((k : Int) + 1))), (1, .int (iN (v1_4 + 1))), (0, .ref (a 0))] rfl rfl (by decide) rfl dX1_howManyOnEdge_35 ?_
          refine x_goto C 4 (by decide) dX1_howManyOnEdge_38 ?_
          exact ih4 (k + 1) _ _ (by omega) (by omega) (by omega) (by simp only [sumz, edz]; omega)
        · refine x_aload_n C 2 rfl rfl dX1_howManyOnEdge_21 ?_
          refine x_get C in_X1_howManyOnEdge_X1 0 rfl rfl 7 (by decide) (List.mem_of_getElem? (i := 2) rfl) rfl (v := .ref (a 5)) rfl dX1_howManyOnEdge_22 ?_
          refine x_iload_n C 0 rfl rfl dX1_howManyOnEdge_25 ?_
          refine x_iaload C (f := Ct.po C0) 5 rfl (by omega) rfl dX1_howManyOnEdge_26 ?_
          have b23 := WFc.po hW ((k : Int))
          refine x_bipush C (14) (by decide) dX1_howManyOnEdge_27 ?_
          refine x_icmp_ne C 35 (by decide) (by omega) dX1_howManyOnEdge_29 (fun c_29 => ?_) (fun c_29 => ?_)
          · refine x_iinc C 0 [(2, .int (iN ((k : Int) + 1))), (1, .int (iN (v1_4))), (0, .ref (a 0))] rfl rfl (by decide) rfl dX1_howManyOnEdge_35 ?_
            refine x_goto C 4 (by decide) dX1_howManyOnEdge_38 ?_
            exact ih4 (k + 1) _ _ (by omega) (by omega) (by omega) (by simp only [sumz, edz]; omega)
          · refine x_iinc C 1 [(1, .int (iN (v1_4 + 1))), (2, .int (iN ((k : Int)))), (0, .ref (a 0))] rfl rfl (by decide) rfl dX1_howManyOnEdge_32 ?_
            refine x_iinc C 1 [(2, .int (iN ((k : Int) + 1))), (1, .int (iN (v1_4 + 1))), (0, .ref (a 0))] rfl rfl (by decide) rfl dX1_howManyOnEdge_35 ?_
            refine x_goto C 4 (by decide) dX1_howManyOnEdge_38 ?_
            exact ih4 (k + 1) _ _ (by omega) (by omega) (by omega) (by simp only [sumz, edz]; omega)
  exact LP4 (((Ct.n C0).toNat - (0)) + 1) (0) _ _ (by omega) (by omega) (by omega) (rfl)
theorem in_X1_setHeight_X1 : ∀ w ∈ u_ws RX1 TX1 13, w ∈ wsX1_setHeight := by decide +kernel
theorem ok_X1_setHeight : okY yX1_setHeight 2 := by decide +kernel
def rmX1_setHeight : Room := { frames := 2, cells := 0, slots := 0, locals := 42 }
set_option maxRecDepth 100000 in
set_option maxHeartbeats 4000000 in
theorem c_X1_setHeight (l : Launch) (γ : GX) (a : Nat → Nat) (C0 : Ct) (hW : WFc C0) (cell : Int) (v : Int) (h0_ : -2147483648 ≤ cell ∧ cell < 2147483648) (h1_ : -2147483648 ≤ v ∧ v < 2147483648) : MI l γ yX1_setHeight wsX1_setHeight rmX1_setHeight [.ref (a 0), .int (iN (cell)), .int (iN (v))] (CT γ a C0) (fun r_ w_ => (((0 ≤ cell ∧ cell ≤ 14) ∧ 0 ≤ v ∧ v ≤ 20) ∧ r_ = 1 ∧ w_ = CT γ a (Ct.set_h C0 (upz (Ct.h C0) cell v))) ∨ (¬ ((0 ≤ cell ∧ cell ≤ 14) ∧ 0 ≤ v ∧ v ≤ 20) ∧ r_ = 0 ∧ w_ = CT γ a C0)) 0 0 := by
  refine MI.of (cc := cX1_setHeight) (maxL := 3) (rt := .boolean) RX1 rfl (by decide +kernel) rfl (Nat.le_of_ble_eq_true rfl) ?_
  intro X C hγ hl hnm hret
  subst hγ
  have hWn := WFc.n hW
  show Wx X 0 0 (CT X.γ a C0) 0 [(0, .ref (a 0)), (1, .int (iN (cell))), (2, .int (iN (v)))] []
  refine x_iload_n C 1 rfl rfl dX1_setHeight_0 ?_
  refine x_N_I C (As := [.int (iN (cell))]) (rest := []) (host := RX11) 1 gX1_setHeight_X11_isCell_n69 (List.mem_of_getElem? (i := 2) rfl) (List.mem_of_getElem? (i := 3) rfl) (List.mem_of_getElem? (i := 2) rfl) (c_X11_isCell _ _ (CT X.γ a C0) (cell) (by omega)) rfl ok_X11_isCell rfl rfl rfl rfl dX1_setHeight_1 (fun r w1 hp => ?_)
  obtain ⟨rfl, rfl⟩ := hp
  refine x_ifeq_bz C 17 (by decide) dX1_setHeight_4 (fun c_4 => ?_) (fun c_4 => ?_)
  · refine x_iconst (v := 0) C dX1_setHeight_17 ?_
    exact hret _ _ _ _ dX1_setHeight_18 (nar_z (by decide)) (Or.inr ⟨(by omega), rfl, rfl⟩)
  · refine x_iload_n C 2 rfl rfl dX1_setHeight_7 ?_
    refine x_iconst (v := 0) C dX1_setHeight_8 ?_
    refine x_bipush C (20) (by decide) dX1_setHeight_9 ?_
    refine x_N_I C (As := [.int (iN (v)), .int (iN (0)), .int (iN (20))]) (rest := []) (host := RX11) 3 gX1_setHeight_X11_isWithin_n65 (List.mem_of_getElem? (i := 3) rfl) (List.mem_of_getElem? (i := 3) rfl) (List.mem_of_getElem? (i := 6) rfl) (c_X11_isWithin _ _ (CT X.γ a C0) (v) (0) (20) (by omega) (by omega) (by omega)) rfl ok_X11_isWithin rfl rfl rfl rfl dX1_setHeight_11 (fun r w1 hp => ?_)
    obtain ⟨rfl, rfl⟩ := hp
    refine x_ifne_bz C 19 (by decide) dX1_setHeight_14 (fun c_14 => ?_) (fun c_14 => ?_)
    · refine x_aload_n C 0 rfl rfl dX1_setHeight_19 ?_
      refine x_get C in_X1_setHeight_X1 0 rfl rfl 1 (by decide) (List.mem_of_getElem? (i := 1) rfl) rfl (v := .ref (a 1)) rfl dX1_setHeight_20 ?_
      refine x_iload_n C 1 rfl rfl dX1_setHeight_23 ?_
      refine x_iload_n C 2 rfl rfl dX1_setHeight_24 ?_
      refine x_iastore C (f := Ct.h C0) 1 rfl (by omega) rfl (CT X.γ a (Ct.set_h C0 (upz (Ct.h C0) cell v))) rfl dX1_setHeight_25 ?_
      refine x_iconst (v := 0) C dX1_setHeight_26 ?_
      exact hret _ _ _ _ dX1_setHeight_27 (nar_z (by decide)) (Or.inl ⟨(by omega), rfl, rfl⟩)
    · refine x_iconst (v := 0) C dX1_setHeight_17 ?_
      exact hret _ _ _ _ dX1_setHeight_18 (nar_z (by decide)) (Or.inr ⟨(by omega), rfl, rfl⟩)
theorem in_X1_setPlace_X1 : ∀ w ∈ u_ws RX1 TX1 13, w ∈ wsX1_setPlace := by decide +kernel
theorem ok_X1_setPlace : okY yX1_setPlace 2 := by decide +kernel
def rmX1_setPlace : Room := { frames := 2, cells := 0, slots := 0, locals := 43 }
set_option maxRecDepth 100000 in
set_option maxHeartbeats 4000000 in
theorem c_X1_setPlace (l : Launch) (γ : GX) (a : Nat → Nat) (C0 : Ct) (hW : WFc C0) (i : Int) (cell : Int) (h0_ : -2147483648 ≤ i ∧ i < 2147483648) (h1_ : -2147483648 ≤ cell ∧ cell < 2147483648) : MI l γ yX1_setPlace wsX1_setPlace rmX1_setPlace [.ref (a 0), .int (iN (i)), .int (iN (cell))] (CT γ a C0) (fun r_ w_ => (((0 ≤ i ∧ i ≤ Ct.n C0 - 1) ∧ 0 ≤ cell ∧ cell ≤ 14) ∧ r_ = 1 ∧ w_ = CT γ a (Ct.set_po C0 (upz (Ct.po C0) i cell))) ∨ (¬ ((0 ≤ i ∧ i ≤ Ct.n C0 - 1) ∧ 0 ≤ cell ∧ cell ≤ 14) ∧ r_ = 0 ∧ w_ = CT γ a C0)) 0 0 := by
  refine MI.of (cc := cX1_setPlace) (maxL := 3) (rt := .boolean) RX1 rfl (by decide +kernel) rfl (Nat.le_of_ble_eq_true rfl) ?_
  intro X C hγ hl hnm hret
  subst hγ
  have hWn := WFc.n hW
  show Wx X 0 0 (CT X.γ a C0) 0 [(0, .ref (a 0)), (1, .int (iN (i))), (2, .int (iN (cell)))] []
  refine x_aload_n C 0 rfl rfl dX1_setPlace_0 ?_
  refine x_iload_n C 1 rfl rfl dX1_setPlace_1 ?_
  refine x_V_I C (As := [.int (iN (i))]) (rest := []) 1 0 rfl rfl gX1_setPlace_X1_has rfl (c_X1_has _ _ a C0 hW (i) (by omega)) rfl ok_X1_has rfl rfl rfl rfl dX1_setPlace_2 (fun r w1 hp => ?_)
  obtain ⟨rfl, rfl⟩ := hp
  refine x_ifeq_bz C 15 (by decide) dX1_setPlace_5 (fun c_5 => ?_) (fun c_5 => ?_)
  · refine x_iconst (v := 0) C dX1_setPlace_15 ?_
    exact hret _ _ _ _ dX1_setPlace_16 (nar_z (by decide)) (Or.inr ⟨(by omega), rfl, rfl⟩)
  · refine x_iload_n C 2 rfl rfl dX1_setPlace_8 ?_
    refine x_N_I C (As := [.int (iN (cell))]) (rest := []) (host := RX11) 1 gX1_setPlace_X11_isCell_n69 (List.mem_of_getElem? (i := 2) rfl) (List.mem_of_getElem? (i := 9) rfl) (List.mem_of_getElem? (i := 11) rfl) (c_X11_isCell _ _ (CT X.γ a C0) (cell) (by omega)) rfl ok_X11_isCell rfl rfl rfl rfl dX1_setPlace_9 (fun r w1 hp => ?_)
    obtain ⟨rfl, rfl⟩ := hp
    refine x_ifne_bz C 17 (by decide) dX1_setPlace_12 (fun c_12 => ?_) (fun c_12 => ?_)
    · refine x_aload_n C 0 rfl rfl dX1_setPlace_17 ?_
      refine x_get C in_X1_setPlace_X1 0 rfl rfl 7 (by decide) (List.mem_of_getElem? (i := 1) rfl) rfl (v := .ref (a 5)) rfl dX1_setPlace_18 ?_
      refine x_iload_n C 1 rfl rfl dX1_setPlace_21 ?_
      refine x_iload_n C 2 rfl rfl dX1_setPlace_22 ?_
      refine x_iastore C (f := Ct.po C0) 5 rfl (by omega) rfl (CT X.γ a (Ct.set_po C0 (upz (Ct.po C0) i cell))) rfl dX1_setPlace_23 ?_
      refine x_iconst (v := 0) C dX1_setPlace_24 ?_
      exact hret _ _ _ _ dX1_setPlace_25 (nar_z (by decide)) (Or.inl ⟨(by omega), rfl, rfl⟩)
    · refine x_iconst (v := 0) C dX1_setPlace_15 ?_
      exact hret _ _ _ _ dX1_setPlace_16 (nar_z (by decide)) (Or.inr ⟨(by omega), rfl, rfl⟩)
theorem in_X1_setWay_X1 : ∀ w ∈ u_ws RX1 TX1 13, w ∈ wsX1_setWay := by decide +kernel
theorem ok_X1_setWay : okY yX1_setWay 2 := by decide +kernel
def rmX1_setWay : Room := { frames := 2, cells := 0, slots := 0, locals := 43 }
set_option maxRecDepth 100000 in
set_option maxHeartbeats 4000000 in
theorem c_X1_setWay (l : Launch) (γ : GX) (a : Nat → Nat) (C0 : Ct) (hW : WFc C0) (i : Int) (t : Int) (h0_ : -2147483648 ≤ i ∧ i < 2147483648) (h1_ : -2147483648 ≤ t ∧ t < 2147483648) : MI l γ yX1_setWay wsX1_setWay rmX1_setWay [.ref (a 0), .int (iN (i)), .int (iN (t))] (CT γ a C0) (fun r_ w_ => (((0 ≤ i ∧ i ≤ Ct.n C0 - 1) ∧ 0 ≤ t ∧ t ≤ 2) ∧ r_ = 1 ∧ w_ = CT γ a (Ct.set_wy C0 (upz (Ct.wy C0) i (if t = 1 then -1 else t / 2)))) ∨ (¬ ((0 ≤ i ∧ i ≤ Ct.n C0 - 1) ∧ 0 ≤ t ∧ t ≤ 2) ∧ r_ = 0 ∧ w_ = CT γ a C0)) 0 0 := by
  refine MI.of (cc := cX1_setWay) (maxL := 3) (rt := .boolean) RX1 rfl (by decide +kernel) rfl (Nat.le_of_ble_eq_true rfl) ?_
  intro X C hγ hl hnm hret
  subst hγ
  have hWn := WFc.n hW
  show Wx X 0 0 (CT X.γ a C0) 0 [(0, .ref (a 0)), (1, .int (iN (i))), (2, .int (iN (t)))] []
  refine x_aload_n C 0 rfl rfl dX1_setWay_0 ?_
  refine x_iload_n C 1 rfl rfl dX1_setWay_1 ?_
  refine x_V_I C (As := [.int (iN (i))]) (rest := []) 1 0 rfl rfl gX1_setWay_X1_has rfl (c_X1_has _ _ a C0 hW (i) (by omega)) rfl ok_X1_has rfl rfl rfl rfl dX1_setWay_2 (fun r w1 hp => ?_)
  obtain ⟨rfl, rfl⟩ := hp
  refine x_ifeq_bz C 17 (by decide) dX1_setWay_5 (fun c_5 => ?_) (fun c_5 => ?_)
  · refine x_iconst (v := 0) C dX1_setWay_17 ?_
    exact hret _ _ _ _ dX1_setWay_18 (nar_z (by decide)) (Or.inr ⟨(by omega), rfl, rfl⟩)
  · refine x_iload_n C 2 rfl rfl dX1_setWay_8 ?_
    refine x_iconst (v := 0) C dX1_setWay_9 ?_
    refine x_iconst (v := 0) C dX1_setWay_10 ?_
    refine x_N_I C (As := [.int (iN (t)), .int (iN (0)), .int (iN (2))]) (rest := []) (host := RX11) 3 gX1_setWay_X11_isWithin_n65 (List.mem_of_getElem? (i := 3) rfl) (List.mem_of_getElem? (i := 9) rfl) (List.mem_of_getElem? (i := 8) rfl) (c_X11_isWithin _ _ (CT X.γ a C0) (t) (0) (2) (by omega) (by omega) (by omega)) rfl ok_X11_isWithin rfl rfl rfl rfl dX1_setWay_11 (fun r w1 hp => ?_)
    obtain ⟨rfl, rfl⟩ := hp
    refine x_ifne_bz C 19 (by decide) dX1_setWay_14 (fun c_14 => ?_) (fun c_14 => ?_)
    · refine x_aload_n C 0 rfl rfl dX1_setWay_19 ?_
      refine x_get C in_X1_setWay_X1 0 rfl rfl 8 (by decide) (List.mem_of_getElem? (i := 1) rfl) rfl (v := .ref (a 6)) rfl dX1_setWay_20 ?_
      refine x_iload_n C 1 rfl rfl dX1_setWay_23 ?_
      refine x_iload_n C 2 rfl rfl dX1_setWay_24 ?_
      refine x_iconst (v := 0) C dX1_setWay_25 ?_
      have LP36 : ∀ (s0_36 : Int), (s0_36 = (if t = 1 then -1 else t / 2)) → Wx X 0 0 (CT X.γ a C0) 36 [(0, .ref (a 0)), (1, .int (iN (i))), (2, .int (iN (t)))] [.int (iN (s0_36)), .int (iN (i)), .ref (a 6)] := by
        intro s0_36 es0_36
        refine x_iastore C (f := Ct.wy C0) 6 rfl (by omega) rfl (CT X.γ a (Ct.set_wy C0 (upz (Ct.wy C0) i s0_36))) rfl dX1_setWay_36 ?_
        refine x_iconst (v := 0) C dX1_setWay_37 ?_
        exact hret _ _ _ _ dX1_setWay_38 (nar_z (by decide)) (Or.inl ⟨(by omega), rfl, (by rw [← es0_36])⟩)
      refine x_icmp_ne C 33 (by decide) (by omega) dX1_setWay_26 (fun c_26 => ?_) (fun c_26 => ?_)
      · refine x_iload_n C 2 rfl rfl dX1_setWay_33 ?_
        refine x_iconst (v := 0) C dX1_setWay_34 ?_
        refine x_idiv C (by omega) dX1_setWay_35 ?_
        exact LP36 _ (by omega)
      · refine x_iconst (v := 0) C dX1_setWay_29 ?_
        refine x_goto C 36 (by decide) dX1_setWay_30 ?_
        exact LP36 _ (by omega)
    · refine x_iconst (v := 0) C dX1_setWay_17 ?_
      exact hret _ _ _ _ dX1_setWay_18 (nar_z (by decide)) (Or.inr ⟨(by omega), rfl, rfl⟩)
theorem in_X1_sendAway_X1 : ∀ w ∈ u_ws RX1 TX1 13, w ∈ wsX1_sendAway := by decide +kernel
theorem ok_X1_sendAway : okY yX1_sendAway 1 := by decide +kernel
def rmX1_sendAway : Room := { frames := 0, cells := 0, slots := 0, locals := 0 }
set_option maxRecDepth 100000 in
set_option maxHeartbeats 4000000 in
theorem c_X1_sendAway (l : Launch) (γ : GX) (a : Nat → Nat) (C0 : Ct) (i : Int) (h0_ : 0 ≤ i ∧ i < 6) : MV l γ yX1_sendAway wsX1_sendAway rmX1_sendAway [.ref (a 0), .int (iN (i))] (CT γ a C0) (fun w_ => w_ = CT γ a (Ct.set_pr C0 (upz (Ct.pr C0) i 0))) 0 0 := by
  refine MV.of (cc := cX1_sendAway) (maxL := 2) RX1 rfl (by decide +kernel) rfl (Nat.le_of_ble_eq_true rfl) ?_
  intro X C hγ hl hnm hret
  subst hγ
  show Wx X 0 0 (CT X.γ a C0) 0 [(0, .ref (a 0)), (1, .int (iN (i)))] []
  refine x_aload_n C 0 rfl rfl dX1_sendAway_0 ?_
  refine x_get C in_X1_sendAway_X1 0 rfl rfl 9 (by decide) (List.mem_of_getElem? (i := 1) rfl) rfl (v := .ref (a 7)) rfl dX1_sendAway_1 ?_
  refine x_iload_n C 1 rfl rfl dX1_sendAway_4 ?_
  refine x_iconst (v := 0) C dX1_sendAway_5 ?_
  refine x_iastore C (f := Ct.pr C0) 7 rfl (by omega) rfl (CT X.γ a (Ct.set_pr C0 (upz (Ct.pr C0) i 0))) rfl dX1_sendAway_6 ?_
  exact hret _ _ _ dX1_sendAway_7 rfl
theorem in_X1_passDay_X1 : ∀ w ∈ u_ws RX1 TX1 13, w ∈ wsX1_passDay := by decide +kernel
theorem ok_X1_passDay : okY yX1_passDay 0 := by decide +kernel
def rmX1_passDay : Room := { frames := 3, cells := 0, slots := 0, locals := 65 }
set_option maxRecDepth 100000 in
set_option maxHeartbeats 4000000 in
theorem c_X1_passDay (l : Launch) (γ : GX) (a : Nat → Nat) (C0 : Ct) (hW : WFc C0) : MI l γ yX1_passDay wsX1_passDay rmX1_passDay [.ref (a 0)] (CT γ a C0) (fun r_ w_ => r_ = (Ct.D C0 (Ct.n C0).toNat).2.2 ∧ w_ = CT γ a (Ct.day C0)) 0 0 := by
  refine MI.of (cc := cX1_passDay) (maxL := 3) (rt := .boolean) RX1 rfl (by decide +kernel) rfl (Nat.le_of_ble_eq_true rfl) ?_
  intro X C hγ hl hnm hret
  subst hγ
  have hWn := WFc.n hW
  show Wx X 0 0 (CT X.γ a C0) 0 [(0, .ref (a 0))] []
  refine x_aload_n C 0 rfl rfl dX1_passDay_0 ?_
  refine x_dup C rfl dX1_passDay_1 ?_
  refine x_get C in_X1_passDay_X1 0 rfl rfl 3 (by decide) (List.mem_of_getElem? (i := 1) rfl) rfl (v := .int (iN (Ct.dy C0))) rfl dX1_passDay_2 ?_
  refine x_iconst (v := 0) C dX1_passDay_5 ?_
  refine x_iadd C dX1_passDay_6 ?_
  refine x_put C in_X1_passDay_X1 tyX1 tyX1_ok nmX1 0 rfl rfl 3 (by decide) (List.mem_of_getElem? (i := 1) rfl) rfl rfl rfl rfl rfl (Nat.le_of_ble_eq_true rfl) (CT X.γ a (Ct.set_dy C0 ((Ct.dy C0) + 1))) rfl dX1_passDay_7 ?_
  refine x_iconst (v := 0) C dX1_passDay_10 ?_
  refine x_istore_n C [(1, .int (iN (0))), (0, .ref (a 0))] rfl (by decide) rfl dX1_passDay_11 ?_
  refine x_iconst (v := 0) C dX1_passDay_12 ?_
  refine x_istore_n C [(2, .int (iN (0))), (1, .int (iN (0))), (0, .ref (a 0))] rfl (by decide) rfl dX1_passDay_13 ?_
  have LP14 : ∀ (f : Nat) (k : Nat) (v2_14 : Int) (v1_14 : Int), ((Ct.n C0).toNat - k < f) → (k ≤ (Ct.n C0).toNat) → (v2_14 = ((k : Int))) → (v1_14 = ((Ct.D C0 k).2.2)) → Wx X 0 0 (CT X.γ a (Ct.set_wy (Ct.set_po (Ct.set_dy C0 ((Ct.dy C0) + 1)) ((Ct.D C0 k).1)) ((Ct.D C0 k).2.1))) 14 [(2, .int (iN (v2_14))), (1, .int (iN (v1_14))), (0, .ref (a 0))] [] := by
    intro f
    induction f with
    | zero => intro k v2_14 v1_14 hf; exact absurd hf (Nat.not_lt_zero _)
    | succ f ih14 =>
      intro k v2_14 v1_14 hf hk e2_14 e1_14
      subst e2_14
      have hD := Ct.D_ok hW k
      have hWk := WFc.pw hW hD.1 hD.2.1
      refine x_iload_n C 0 rfl rfl dX1_passDay_14 ?_
      refine x_aload_n C 2 rfl rfl dX1_passDay_15 ?_
      refine x_get C in_X1_passDay_X1 0 rfl rfl 2 (by decide) (List.mem_of_getElem? (i := 2) rfl) rfl (v := .int (iN (Ct.n C0))) rfl dX1_passDay_16 ?_
      refine x_icmp_ge C 94 (by decide) (by omega) dX1_passDay_19 (fun c_19 => ?_) (fun c_19 => ?_)
      · refine x_iload_n C 1 rfl rfl dX1_passDay_94 ?_
        exact hret _ _ _ _ dX1_passDay_95 (nar_z (by rw [e1_14]; exact (Ct.D_ok hW k).2.2)) ⟨(by have hz : k = (Ct.n C0).toNat := (by omega); subst hz; exact e1_14), (by have hz : k = (Ct.n C0).toNat := (by omega); subst hz; rfl)⟩
      · refine x_aload_n C 2 rfl rfl dX1_passDay_22 ?_
        refine x_get C in_X1_passDay_X1 0 rfl rfl 7 (by decide) (List.mem_of_getElem? (i := 3) rfl) rfl (v := .ref (a 5)) rfl dX1_passDay_23 ?_
        refine x_iload_n C 0 rfl rfl dX1_passDay_26 ?_
        refine x_iaload C (f := ((Ct.D C0 k).1)) 5 rfl (by omega) rfl dX1_passDay_27 ?_
        have b24 := hD.1 ((k : Int))
        refine x_aload_n C 2 rfl rfl dX1_passDay_28 ?_
        refine x_get C in_X1_passDay_X1 0 rfl rfl 8 (by decide) (List.mem_of_getElem? (i := 4) rfl) rfl (v := .ref (a 6)) rfl dX1_passDay_29 ?_
        refine x_iload_n C 0 rfl rfl dX1_passDay_32 ?_
        refine x_iaload C (f := ((Ct.D C0 k).2.1)) 6 rfl (by omega) rfl dX1_passDay_33 ?_
        have b25 := hD.2.1 ((k : Int))
        refine x_iadd C dX1_passDay_34 ?_
        refine x_N_I C (As := [.int (iN ((((Ct.D C0 k).1) (k : Int)) + (((Ct.D C0 k).2.1) (k : Int))))]) (rest := []) (host := RX11) 1 gX1_passDay_X11_isCell_n69 (List.mem_of_getElem? (i := 2) rfl) (List.mem_of_getElem? (i := 6) rfl) (List.mem_of_getElem? (i := 5) rfl) (c_X11_isCell _ _ (CT X.γ a (Ct.set_wy (Ct.set_po (Ct.set_dy C0 ((Ct.dy C0) + 1)) ((Ct.D C0 k).1)) ((Ct.D C0 k).2.1))) ((((Ct.D C0 k).1) (k : Int)) + (((Ct.D C0 k).2.1) (k : Int))) (by omega)) rfl ok_X11_isCell rfl rfl rfl rfl dX1_passDay_35 (fun r w1 hp => ?_)
        obtain ⟨rfl, rfl⟩ := hp
        refine x_ifne_bz C 48 (by decide) dX1_passDay_38 (fun c_38 => ?_) (fun c_38 => ?_)
        · refine x_aload_n C 2 rfl rfl dX1_passDay_48 ?_
          refine x_get C in_X1_passDay_X1 0 rfl rfl 8 (by decide) (List.mem_of_getElem? (i := 4) rfl) rfl (v := .ref (a 6)) rfl dX1_passDay_49 ?_
          refine x_iload_n C 0 rfl rfl dX1_passDay_52 ?_
          refine x_iaload C (f := ((Ct.D C0 k).2.1)) 6 rfl (by omega) rfl dX1_passDay_53 ?_
          have b26 := hD.2.1 ((k : Int))
          refine x_if_eq C 88 (by decide) (by omega) dX1_passDay_54 (fun c_54 => ?_) (fun c_54 => ?_)
          · refine x_iinc C 0 [(2, .int (iN ((k : Int) + 1))), (1, .int (iN (v1_14))), (0, .ref (a 0))] rfl rfl (by decide) rfl dX1_passDay_88 ?_
            refine x_goto C 14 (by decide) dX1_passDay_91 ?_
            have hS : Ct.D C0 (k + 1) = Ct.D C0 k := by
              show stp (Ct.h C0) (Ct.n C0) (Ct.pr C0) (Ct.sp C0) (Ct.sr C0) (Ct.D C0 k) (k : Int) = _
              unfold stp
              rw [if_pos c_38, if_neg (fun z => z.1 c_54)]
            refine Wx.eqW (ws' := (CT X.γ a (Ct.set_wy (Ct.set_po (Ct.set_dy C0 ((Ct.dy C0) + 1)) ((Ct.D C0 (k + 1)).1)) ((Ct.D C0 (k + 1)).2.1)))) (by rw [hS]) ?_
            exact ih14 (k + 1) _ _ (by omega) (by omega) (by omega) (by rw [hS]; try exact e1_14)
          · refine x_aload_n C 2 rfl rfl dX1_passDay_57 ?_
            refine x_iload_n C 0 rfl rfl dX1_passDay_58 ?_
            refine x_aload_n C 2 rfl rfl dX1_passDay_59 ?_
            refine x_get C in_X1_passDay_X1 0 rfl rfl 8 (by decide) (List.mem_of_getElem? (i := 4) rfl) rfl (v := .ref (a 6)) rfl dX1_passDay_60 ?_
            refine x_iload_n C 0 rfl rfl dX1_passDay_63 ?_
            refine x_iaload C (f := ((Ct.D C0 k).2.1)) 6 rfl (by omega) rfl dX1_passDay_64 ?_
            have b27 := hD.2.1 ((k : Int))
            refine x_V_I C (As := [.int (iN ((k : Int))), .int (iN (((Ct.D C0 k).2.1) (k : Int)))]) (rest := []) 2 0 rfl rfl gX1_passDay_X1_mayGo rfl (c_X1_mayGo _ _ a (Ct.set_wy (Ct.set_po (Ct.set_dy C0 ((Ct.dy C0) + 1)) ((Ct.D C0 k).1)) ((Ct.D C0 k).2.1)) hWk ((k : Int)) (((Ct.D C0 k).2.1) (k : Int)) (by omega) (by omega)) rfl ok_X1_mayGo rfl rfl rfl rfl dX1_passDay_65 (fun r w1 hp => ?_)
            obtain ⟨rfl, rfl⟩ := hp
            refine x_ifeq_bz C 88 (by decide) dX1_passDay_68 (fun c_68 => ?_) (fun c_68 => ?_)
            · refine x_iinc C 0 [(2, .int (iN ((k : Int) + 1))), (1, .int (iN (v1_14))), (0, .ref (a 0))] rfl rfl (by decide) rfl dX1_passDay_88 ?_
              refine x_goto C 14 (by decide) dX1_passDay_91 ?_
              have hS : Ct.D C0 (k + 1) = Ct.D C0 k := by
                show stp (Ct.h C0) (Ct.n C0) (Ct.pr C0) (Ct.sp C0) (Ct.sr C0) (Ct.D C0 k) (k : Int) = _
                unfold stp
                rw [if_pos c_38, if_neg (fun z => c_68 z.2)]
              refine Wx.eqW (ws' := (CT X.γ a (Ct.set_wy (Ct.set_po (Ct.set_dy C0 ((Ct.dy C0) + 1)) ((Ct.D C0 (k + 1)).1)) ((Ct.D C0 (k + 1)).2.1)))) (by rw [hS]) ?_
              exact ih14 (k + 1) _ _ (by omega) (by omega) (by omega) (by rw [hS]; try exact e1_14)
            · refine x_aload_n C 2 rfl rfl dX1_passDay_71 ?_
              refine x_get C in_X1_passDay_X1 0 rfl rfl 7 (by decide) (List.mem_of_getElem? (i := 3) rfl) rfl (v := .ref (a 5)) rfl dX1_passDay_72 ?_
              refine x_iload_n C 0 rfl rfl dX1_passDay_75 ?_
              refine x_dup2 C rfl rfl dX1_passDay_76 ?_
              refine x_iaload C (f := ((Ct.D C0 k).1)) 5 rfl (by omega) rfl dX1_passDay_77 ?_
              have b28 := hD.1 ((k : Int))
              refine x_aload_n C 2 rfl rfl dX1_passDay_78 ?_
              refine x_get C in_X1_passDay_X1 0 rfl rfl 8 (by decide) (List.mem_of_getElem? (i := 4) rfl) rfl (v := .ref (a 6)) rfl dX1_passDay_79 ?_
              refine x_iload_n C 0 rfl rfl dX1_passDay_82 ?_
              refine x_iaload C (f := ((Ct.D C0 k).2.1)) 6 rfl (by omega) rfl dX1_passDay_83 ?_
              have b29 := hD.2.1 ((k : Int))
              refine x_iadd C dX1_passDay_84 ?_
              refine x_iastore C (f := ((Ct.D C0 k).1)) 5 rfl (by omega) rfl (CT X.γ a (Ct.set_wy (Ct.set_po (Ct.set_dy C0 ((Ct.dy C0) + 1)) (upz ((Ct.D C0 k).1) (k : Int) ((((Ct.D C0 k).1) (k : Int)) + (((Ct.D C0 k).2.1) (k : Int))))) ((Ct.D C0 k).2.1))) rfl dX1_passDay_85 ?_
              refine x_iconst (v := 0) C dX1_passDay_86 ?_
              refine x_istore_n C [(1, .int (iN (1))), (2, .int (iN ((k : Int)))), (0, .ref (a 0))] rfl (by decide) rfl dX1_passDay_87 ?_
              refine x_iinc C 1 [(2, .int (iN ((k : Int) + 1))), (1, .int (iN (1))), (0, .ref (a 0))] rfl rfl (by decide) rfl dX1_passDay_88 ?_
              refine x_goto C 14 (by decide) dX1_passDay_91 ?_
              have hS : Ct.D C0 (k + 1) = (upz ((Ct.D C0 k).1) (k : Int) ((((Ct.D C0 k).1) (k : Int)) + (((Ct.D C0 k).2.1) (k : Int))), (Ct.D C0 k).2.1, 1) := by
                show stp (Ct.h C0) (Ct.n C0) (Ct.pr C0) (Ct.sp C0) (Ct.sr C0) (Ct.D C0 k) (k : Int) = _
                unfold stp
                rw [if_pos c_38, if_pos ⟨c_54, c_68⟩]
              refine Wx.eqW (ws' := (CT X.γ a (Ct.set_wy (Ct.set_po (Ct.set_dy C0 ((Ct.dy C0) + 1)) ((Ct.D C0 (k + 1)).1)) ((Ct.D C0 (k + 1)).2.1)))) (by rw [hS]) ?_
              exact ih14 (k + 1) _ _ (by omega) (by omega) (by omega) (by rw [hS]; try exact e1_14)
        · refine x_aload_n C 2 rfl rfl dX1_passDay_41 ?_
          refine x_get C in_X1_passDay_X1 0 rfl rfl 8 (by decide) (List.mem_of_getElem? (i := 4) rfl) rfl (v := .ref (a 6)) rfl dX1_passDay_42 ?_
          refine x_iload_n C 0 rfl rfl dX1_passDay_45 ?_
          refine x_iconst (v := 0) C dX1_passDay_46 ?_
          refine x_iastore C (f := ((Ct.D C0 k).2.1)) 6 rfl (by omega) rfl (CT X.γ a (Ct.set_wy (Ct.set_po (Ct.set_dy C0 ((Ct.dy C0) + 1)) ((Ct.D C0 k).1)) (upz ((Ct.D C0 k).2.1) (k : Int) 0))) rfl dX1_passDay_47 ?_
          refine x_aload_n C 2 rfl rfl dX1_passDay_48 ?_
          refine x_get C in_X1_passDay_X1 0 rfl rfl 8 (by decide) (List.mem_of_getElem? (i := 4) rfl) rfl (v := .ref (a 6)) rfl dX1_passDay_49 ?_
          refine x_iload_n C 0 rfl rfl dX1_passDay_52 ?_
          refine x_iaload C (f := (upz ((Ct.D C0 k).2.1) (k : Int) 0)) 6 rfl (by omega) rfl dX1_passDay_53 ?_
          rw [upz_s]
          refine x_if_eq C 88 (by decide) (by decide) dX1_passDay_54 (fun _ => ?_) (fun z => absurd z (by decide))
          refine x_iinc C 0 [(2, .int (iN ((k : Int) + 1))), (1, .int (iN (v1_14))), (0, .ref (a 0))] rfl rfl (by decide) rfl dX1_passDay_88 ?_
          refine x_goto C 14 (by decide) dX1_passDay_91 ?_
          have hS : Ct.D C0 (k + 1) = ((Ct.D C0 k).1, upz ((Ct.D C0 k).2.1) (k : Int) 0, (Ct.D C0 k).2.2) := by
            show stp (Ct.h C0) (Ct.n C0) (Ct.pr C0) (Ct.sp C0) (Ct.sr C0) (Ct.D C0 k) (k : Int) = _
            unfold stp
            rw [if_neg c_38]
          refine Wx.eqW (ws' := (CT X.γ a (Ct.set_wy (Ct.set_po (Ct.set_dy C0 ((Ct.dy C0) + 1)) ((Ct.D C0 (k + 1)).1)) ((Ct.D C0 (k + 1)).2.1)))) (by rw [hS]) ?_
          exact ih14 (k + 1) _ _ (by omega) (by omega) (by omega) (by rw [hS]; try exact e1_14)
  exact LP14 (((Ct.n C0).toNat - (0)) + 1) (0) _ _ (by omega) (by omega) (by omega) (rfl)
theorem ok_X1_passDays : okY yX1_passDays 1 := by decide +kernel
def rmX1_passDays : Room := { frames := 4, cells := 0, slots := 0, locals := 87 }
set_option maxRecDepth 100000 in
set_option maxHeartbeats 4000000 in
theorem c_X1_passDays (l : Launch) (γ : GX) (a : Nat → Nat) (C0 : Ct) (hW : WFc C0) (m : Int) (h0_ : 0 ≤ m ∧ m < 2147483648) : MV l γ yX1_passDays wsX1_passDays rmX1_passDays [.ref (a 0), .int (iN (m))] (CT γ a C0) (fun w_ => w_ = CT γ a (Ct.days C0 m.toNat)) 0 0 := by
  refine MV.of (cc := cX1_passDays) (maxL := 3) RX1 rfl (by decide +kernel) rfl (Nat.le_of_ble_eq_true rfl) ?_
  intro X C hγ hl hnm hret
  subst hγ
  have hWn := WFc.n hW
  show Wx X 0 0 (CT X.γ a C0) 0 [(0, .ref (a 0)), (1, .int (iN (m)))] []
  refine x_iconst (v := 0) C dX1_passDays_0 ?_
  refine x_istore_n C [(2, .int (iN (0))), (0, .ref (a 0)), (1, .int (iN (m)))] rfl (by decide) rfl dX1_passDays_1 ?_
  have LP2 : ∀ (f : Nat) (k : Nat) (v2_2 : Int), (m.toNat - k < f) → (k ≤ m.toNat) → (v2_2 = ((k : Int))) → Wx X 0 0 (CT X.γ a (Ct.days C0 k)) 2 [(2, .int (iN (v2_2))), (0, .ref (a 0)), (1, .int (iN (m)))] [] := by
    intro f
    induction f with
    | zero => intro k v2_2 hf; exact absurd hf (Nat.not_lt_zero _)
    | succ f ih2 =>
      intro k v2_2 hf hk e2_2
      subst e2_2
      refine x_iload_n C 0 rfl rfl dX1_passDays_2 ?_
      refine x_iload_n C 2 rfl rfl dX1_passDays_3 ?_
      refine x_icmp_ge C 18 (by decide) (by omega) dX1_passDays_4 (fun c_4 => ?_) (fun c_4 => ?_)
      · exact hret _ _ _ dX1_passDays_18 (by have hz : k = m.toNat := (by omega); subst hz; rfl)
      · refine x_aload_n C 1 rfl rfl dX1_passDays_7 ?_
        refine x_V_I C (As := []) (rest := []) 0 0 rfl rfl gX1_passDays_X1_passDay rfl (c_X1_passDay _ _ a (Ct.days C0 k) (Ct.days_wf hW k)) rfl ok_X1_passDay rfl rfl rfl rfl dX1_passDays_8 (fun r w1 hp => ?_)
        obtain ⟨rfl, rfl⟩ := hp
        refine x_pop C rfl dX1_passDays_11 ?_
        refine x_iinc C 0 [(2, .int (iN ((k : Int) + 1))), (0, .ref (a 0)), (1, .int (iN (m)))] rfl rfl (by decide) rfl dX1_passDays_12 ?_
        refine x_goto C 2 (by decide) dX1_passDays_15 ?_
        exact ih2 (k + 1) _ (by omega) (by omega) (by omega)
  exact LP2 ((m.toNat - (0)) + 1) (0) _ (by omega) (by omega) (by omega)
theorem in_X1_passDaysAsTold_X1 : ∀ w ∈ u_ws RX1 TX1 13, w ∈ wsX1_passDaysAsTold := by decide +kernel
theorem ok_X1_passDaysAsTold : okY yX1_passDaysAsTold 1 := by decide +kernel
def rmX1_passDaysAsTold : Room := { frames := 5, cells := 0, slots := 0, locals := 109 }
set_option maxRecDepth 100000 in
set_option maxHeartbeats 4000000 in
theorem c_X1_passDaysAsTold (l : Launch) (γ : GX) (a : Nat → Nat) (C0 : Ct) (hW : WFc C0) (m : Int) (h0_ : -2147483648 ≤ m ∧ m < 2147483648) (h1_ : 0 ≤ Ct.dy C0 ∧ Ct.dy C0 ≤ 999) : MI l γ yX1_passDaysAsTold wsX1_passDaysAsTold rmX1_passDaysAsTold [.ref (a 0), .int (iN (m))] (CT γ a C0) (fun r_ w_ => (((1 ≤ m ∧ m ≤ 60) ∧ Ct.dy C0 + m ≤ 999) ∧ r_ = 1 ∧ w_ = CT γ a (Ct.days C0 m.toNat)) ∨ (¬ ((1 ≤ m ∧ m ≤ 60) ∧ Ct.dy C0 + m ≤ 999) ∧ r_ = 0 ∧ w_ = CT γ a C0)) 0 0 := by
  refine MI.of (cc := cX1_passDaysAsTold) (maxL := 2) (rt := .boolean) RX1 rfl (by decide +kernel) rfl (Nat.le_of_ble_eq_true rfl) ?_
  intro X C hγ hl hnm hret
  subst hγ
  have hWn := WFc.n hW
  show Wx X 0 0 (CT X.γ a C0) 0 [(0, .ref (a 0)), (1, .int (iN (m)))] []
  refine x_iload_n C 1 rfl rfl dX1_passDaysAsTold_0 ?_
  refine x_iconst (v := 0) C dX1_passDaysAsTold_1 ?_
  refine x_bipush C (60) (by decide) dX1_passDaysAsTold_2 ?_
  refine x_N_I C (As := [.int (iN (m)), .int (iN (1)), .int (iN (60))]) (rest := []) (host := RX11) 3 gX1_passDaysAsTold_X11_isWithin_n65 (List.mem_of_getElem? (i := 3) rfl) (List.mem_of_getElem? (i := 3) rfl) (List.mem_of_getElem? (i := 2) rfl) (c_X11_isWithin _ _ (CT X.γ a C0) (m) (1) (60) (by omega) (by omega) (by omega)) rfl ok_X11_isWithin rfl rfl rfl rfl dX1_passDaysAsTold_4 (fun r w1 hp => ?_)
  obtain ⟨rfl, rfl⟩ := hp
  refine x_ifeq_bz C 22 (by decide) dX1_passDaysAsTold_7 (fun c_7 => ?_) (fun c_7 => ?_)
  · refine x_iconst (v := 0) C dX1_passDaysAsTold_22 ?_
    exact hret _ _ _ _ dX1_passDaysAsTold_23 (nar_z (by decide)) (Or.inr ⟨(by omega), rfl, rfl⟩)
  · refine x_aload_n C 0 rfl rfl dX1_passDaysAsTold_10 ?_
    refine x_get C in_X1_passDaysAsTold_X1 0 rfl rfl 3 (by decide) (List.mem_of_getElem? (i := 1) rfl) rfl (v := .int (iN (Ct.dy C0))) rfl dX1_passDaysAsTold_11 ?_
    refine x_iload_n C 1 rfl rfl dX1_passDaysAsTold_14 ?_
    refine x_iadd C dX1_passDaysAsTold_15 ?_
    refine x_sipush C (999) (by decide) dX1_passDaysAsTold_16 ?_
    refine x_icmp_le C 24 (by decide) (by omega) dX1_passDaysAsTold_19 (fun c_19 => ?_) (fun c_19 => ?_)
    · refine x_aload_n C 0 rfl rfl dX1_passDaysAsTold_24 ?_
      refine x_iload_n C 1 rfl rfl dX1_passDaysAsTold_25 ?_
      refine x_V_V C (As := [.int (iN (m))]) (rest := []) 1 0 rfl rfl gX1_passDaysAsTold_X1_passDays rfl (c_X1_passDays _ _ a C0 hW (m) (by omega)) rfl ok_X1_passDays rfl rfl rfl rfl dX1_passDaysAsTold_26 (fun w1 hp => ?_)
      obtain rfl := hp
      refine x_iconst (v := 0) C dX1_passDaysAsTold_29 ?_
      exact hret _ _ _ _ dX1_passDaysAsTold_30 (nar_z (by decide)) (Or.inl ⟨(by omega), rfl, rfl⟩)
    · refine x_iconst (v := 0) C dX1_passDaysAsTold_22 ?_
      exact hret _ _ _ _ dX1_passDaysAsTold_23 (nar_z (by decide)) (Or.inr ⟨(by omega), rfl, rfl⟩)
theorem in_X1_flood_X1 : ∀ w ∈ u_ws RX1 TX1 13, w ∈ wsX1_flood := by decide +kernel
theorem ok_X1_flood : okY yX1_flood 0 := by decide +kernel
def rmX1_flood : Room := { frames := 1, cells := 0, slots := 0, locals := 60 }
set_option maxRecDepth 100000 in
set_option maxHeartbeats 4000000 in
theorem c_X1_flood (l : Launch) (γ : GX) (a : Nat → Nat) (C0 : Ct) (hW : WFc C0) : MV l γ yX1_flood wsX1_flood rmX1_flood [.ref (a 0)] (CT γ a C0) (fun w_ => w_ = CT γ a (Ct.set_wa C0 (Ct.w C0))) 0 0 := by
  refine MV.of (cc := cX1_flood) (maxL := 4) RX1 rfl (by decide +kernel) rfl (Nat.le_of_ble_eq_true rfl) ?_
  intro X C hγ hl hnm hret
  subst hγ
  have hWn := WFc.n hW
  show Wx X 0 0 (CT X.γ a C0) 0 [(0, .ref (a 0))] []
  refine x_iconst (v := 0) C dX1_flood_0 ?_
  refine x_istore_n C [(1, .int (iN (0))), (0, .ref (a 0))] rfl (by decide) rfl dX1_flood_1 ?_
  refine x_iconst (v := 0) C dX1_flood_2 ?_
  refine x_istore_n C [(2, .int (iN (0))), (1, .int (iN (0))), (0, .ref (a 0))] rfl (by decide) rfl dX1_flood_3 ?_
  have LP4 : ∀ (f : Nat) (k : Nat) (G : Int → Int) (v2_4 : Int) (v1_4 : Int), (15 - k < f) → (k ≤ 15) → (∀ j : Int, 0 ≤ j → j < (k : Int) → G j = lmx (Ct.g C0) j.toNat) → (v2_4 = ((k : Int))) → (v1_4 = (lmx (Ct.g C0) k)) → Wx X 0 0 (CT X.γ a (Ct.set_wa C0 (G))) 4 [(2, .int (iN (v2_4))), (1, .int (iN (v1_4))), (0, .ref (a 0))] [] := by
    intro f
    induction f with
    | zero => intro k G v2_4 v1_4 hf; exact absurd hf (Nat.not_lt_zero _)
    | succ f ih4 =>
      intro k G v2_4 v1_4 hf hk hG e2_4 e1_4
      subst e2_4
      have bl := lmx_b (WFc.g hW) k
      refine x_iload_n C 0 rfl rfl dX1_flood_4 ?_
      refine x_bipush C (15) (by decide) dX1_flood_5 ?_
      refine x_icmp_ge C 33 (by decide) (by omega) dX1_flood_7 (fun c_7 => ?_) (fun c_7 => ?_)
      · refine x_iconst (v := 0) C dX1_flood_33 ?_
        refine x_istore_n C [(1, .int (iN (0))), (2, .int (iN ((k : Int)))), (0, .ref (a 0))] rfl (by decide) rfl dX1_flood_34 ?_
        refine x_bipush C (14) (by decide) dX1_flood_35 ?_
        refine x_istore_n C [(2, .int (iN (14))), (1, .int (iN (0))), (0, .ref (a 0))] rfl (by decide) rfl dX1_flood_37 ?_
        have LP38 : ∀ (f : Nat) (k2 : Nat) (G2 : Int → Int) (v2_38 : Int) (v1_38 : Int), (15 - k2 < f) → (k2 ≤ 15) → (∀ j : Int, 0 ≤ j → j ≤ 14 - (k2 : Int) → G2 j = lmx (Ct.g C0) j.toNat) → (∀ j : Int, 14 - (k2 : Int) < j → j ≤ 14 → G2 j = Ct.w C0 j) → (v2_38 = (14 - (k2 : Int))) → (v1_38 = (rmx (Ct.g C0) k2)) → Wx X 0 0 (CT X.γ a (Ct.set_wa C0 (G2))) 38 [(2, .int (iN (v2_38))), (1, .int (iN (v1_38))), (0, .ref (a 0))] [] := by
          intro f
          induction f with
          | zero => intro k2 G2 v2_38 v1_38 hf; exact absurd hf (Nat.not_lt_zero _)
          | succ f ih38 =>
            intro k2 G2 v2_38 v1_38 hf hk2 hG2 hG3 e2_38 e1_38
            subst e2_38
            have br := rmx_b (WFc.g hW) k2
            refine x_iload_n C 0 rfl rfl dX1_flood_38 ?_
            refine x_if_lt C 82 (by decide) (by omega) dX1_flood_39 (fun c_39 => ?_) (fun c_39 => ?_)
            · refine x_canonI (f := G2) (g := Ct.w C0) 10 rfl (fun i h1 h2 => hG3 i (by omega) (by omega)) (CT X.γ a (Ct.set_wa C0 (Ct.w C0))) rfl ?_
              exact hret _ _ _ dX1_flood_82 rfl
            · refine x_aload_n C 2 rfl rfl dX1_flood_42 ?_
              refine x_iload_n C 0 rfl rfl dX1_flood_43 ?_
              refine x_V_I C (As := [.int (iN (14 - (k2 : Int)))]) (rest := []) 1 0 rfl rfl gX1_flood_X1_level rfl (c_X1_level _ _ a (Ct.set_wa C0 (G2)) hW (14 - (k2 : Int)) (by omega)) rfl ok_X1_level rfl rfl rfl rfl dX1_flood_44 (fun r w1 hp => ?_)
              obtain ⟨rfl, rfl⟩ := hp
              show Wx X 0 0 (CT X.γ a (Ct.set_wa C0 (G2))) 47 [(2, .int (iN (14 - (k2 : Int)))), (1, .int (iN (v1_38))), (0, .ref (a 0))] [.int (iN (Ct.g C0 (14 - (k2 : Int))))]
              have b30 := WFc.g hW (14 - (k2 : Int))
              refine x_istore_n C [(3, .int (iN (Ct.g C0 (14 - (k2 : Int))))), (2, .int (iN (14 - (k2 : Int)))), (1, .int (iN (v1_38))), (0, .ref (a 0))] rfl (by decide) rfl dX1_flood_47 ?_
              refine x_aload_n C 3 rfl rfl dX1_flood_48 ?_
              refine x_get C in_X1_flood_X1 0 rfl rfl 12 (by decide) (List.mem_of_getElem? (i := 1) rfl) rfl (v := .ref (a 10)) rfl dX1_flood_49 ?_
              refine x_iload_n C 1 rfl rfl dX1_flood_52 ?_
              refine x_iconst (v := 0) C dX1_flood_53 ?_
              refine x_aload_n C 3 rfl rfl dX1_flood_54 ?_
              refine x_get C in_X1_flood_X1 0 rfl rfl 12 (by decide) (List.mem_of_getElem? (i := 1) rfl) rfl (v := .ref (a 10)) rfl dX1_flood_55 ?_
              refine x_iload_n C 1 rfl rfl dX1_flood_58 ?_
              refine x_iaload C (f := G2) 10 rfl (by omega) rfl dX1_flood_59 ?_
              refine x_iload_n C 2 rfl rfl dX1_flood_60 ?_
              have e61 := hG2 (14 - (k2 : Int)) (by omega) (by omega)
              have b61 := lmx_b (WFc.g hW) (14 - (k2 : Int)).toNat
              refine x_min C (List.mem_of_getElem? (i := 6) rfl) (List.mem_of_getElem? (i := 7) rfl) (List.mem_of_getElem? (i := 4) rfl) (List.mem_of_getElem? (i := 8) rfl) (by omega) rfl dX1_flood_61 ?_
              refine x_iload_n C 0 rfl rfl dX1_flood_64 ?_
              refine x_isub C dX1_flood_65 ?_
              refine x_max C (List.mem_of_getElem? (i := 2) rfl) (List.mem_of_getElem? (i := 3) rfl) (List.mem_of_getElem? (i := 4) rfl) (List.mem_of_getElem? (i := 5) rfl) (by omega) rfl dX1_flood_66 ?_
              refine x_iastore C (f := G2) 10 rfl (by omega) rfl (CT X.γ a (Ct.set_wa C0 (upz G2 (14 - (k2 : Int)) (max 0 ((min (G2 (14 - (k2 : Int))) v1_38) - (Ct.g C0 (14 - (k2 : Int)))))))) rfl dX1_flood_69 ?_
              refine x_iload_n C 2 rfl rfl dX1_flood_70 ?_
              refine x_iload_n C 0 rfl rfl dX1_flood_71 ?_
              refine x_max C (List.mem_of_getElem? (i := 2) rfl) (List.mem_of_getElem? (i := 3) rfl) (List.mem_of_getElem? (i := 4) rfl) (List.mem_of_getElem? (i := 5) rfl) (by omega) rfl dX1_flood_72 ?_
              refine x_istore_n C [(1, .int (iN (max v1_38 (Ct.g C0 (14 - (k2 : Int)))))), (3, .int (iN (Ct.g C0 (14 - (k2 : Int))))), (2, .int (iN (14 - (k2 : Int)))), (0, .ref (a 0))] rfl (by decide) rfl dX1_flood_75 ?_
              refine x_iinc C 2 [(2, .int (iN ((14 - (k2 : Int)) + (-1)))), (1, .int (iN (max v1_38 (Ct.g C0 (14 - (k2 : Int)))))), (3, .int (iN (Ct.g C0 (14 - (k2 : Int))))), (0, .ref (a 0))] rfl rfl (by decide) rfl dX1_flood_76 ?_
              refine x_goto C 38 (by decide) dX1_flood_79 ?_
              refine Wx.subL [0, 1, 3] rfl ?_
              exact ih38 (k2 + 1) (upz G2 (14 - (k2 : Int)) (max 0 ((min (G2 (14 - (k2 : Int))) v1_38) - (Ct.g C0 (14 - (k2 : Int)))))) _ _ (by omega) (by omega) (fun j h1 h2 => by rw [upz_n (by omega)]; exact hG2 j h1 (by omega)) (fun j h1 h2 => if q : j = 14 - (k2 : Int) then (by rw [q, upz_s, hG2 _ (by omega) (by omega), e1_38]; simp only [Ct.w, wat]; rw [show (14 - (14 - (k2 : Int))).toNat = k2 by omega]) else (by rw [upz_n q]; exact hG3 j (by omega) h2)) (by omega) (by simp only [rmx]; omega)
        exact LP38 ((15 - (0)) + 1) (0) (G) _ _ (by omega) (by omega) (fun j h1 h2 => hG j h1 (by omega)) (fun j h1 h2 => by omega) (by omega) (rfl)
      · refine x_aload_n C 2 rfl rfl dX1_flood_10 ?_
        refine x_get C in_X1_flood_X1 0 rfl rfl 12 (by decide) (List.mem_of_getElem? (i := 1) rfl) rfl (v := .ref (a 10)) rfl dX1_flood_11 ?_
        refine x_iload_n C 0 rfl rfl dX1_flood_14 ?_
        refine x_iload_n C 1 rfl rfl dX1_flood_15 ?_
        refine x_iastore C (f := G) 10 rfl (by omega) rfl (CT X.γ a (Ct.set_wa C0 (upz G (k : Int) v1_4))) rfl dX1_flood_16 ?_
        refine x_iload_n C 1 rfl rfl dX1_flood_17 ?_
        refine x_aload_n C 2 rfl rfl dX1_flood_18 ?_
        refine x_iload_n C 0 rfl rfl dX1_flood_19 ?_
        refine x_V_I C (As := [.int (iN ((k : Int)))]) (rest := [.int (iN (v1_4))]) 1 0 rfl rfl gX1_flood_X1_level rfl (c_X1_level _ _ a (Ct.set_wa C0 (upz G (k : Int) v1_4)) hW ((k : Int)) (by omega)) rfl ok_X1_level rfl rfl rfl rfl dX1_flood_20 (fun r w1 hp => ?_)
        obtain ⟨rfl, rfl⟩ := hp
        show Wx X 0 0 (CT X.γ a (Ct.set_wa C0 (upz G (k : Int) v1_4))) 23 [(2, .int (iN ((k : Int)))), (1, .int (iN (v1_4))), (0, .ref (a 0))] [.int (iN (Ct.g C0 ((k : Int)))), .int (iN (v1_4))]
        have b32 := WFc.g hW ((k : Int))
        refine x_max C (List.mem_of_getElem? (i := 2) rfl) (List.mem_of_getElem? (i := 3) rfl) (List.mem_of_getElem? (i := 4) rfl) (List.mem_of_getElem? (i := 5) rfl) (by omega) rfl dX1_flood_23 ?_
        refine x_istore_n C [(1, .int (iN (max v1_4 (Ct.g C0 ((k : Int)))))), (2, .int (iN ((k : Int)))), (0, .ref (a 0))] rfl (by decide) rfl dX1_flood_26 ?_
        refine x_iinc C 1 [(2, .int (iN ((k : Int) + 1))), (1, .int (iN (max v1_4 (Ct.g C0 ((k : Int)))))), (0, .ref (a 0))] rfl rfl (by decide) rfl dX1_flood_27 ?_
        refine x_goto C 4 (by decide) dX1_flood_30 ?_
        exact ih4 (k + 1) (upz G (k : Int) v1_4) _ _ (by omega) (by omega) (fun j h1 h2 => upz_up (F := fun j => lmx (Ct.g C0) j.toNat) hG (by rw [e1_4]; simp) j h1 (by omega)) (by omega) (by simp only [lmx]; omega)
  exact LP4 ((15 - (0)) + 1) (0) (Ct.wa C0) _ _ (by omega) (by omega) (fun j h1 h2 => by omega) (by omega) (rfl)
theorem in_X1_allWater_X1 : ∀ w ∈ u_ws RX1 TX1 13, w ∈ wsX1_allWater := by decide +kernel
theorem ok_X1_allWater : okY yX1_allWater 0 := by decide +kernel
def rmX1_allWater : Room := { frames := 2, cells := 0, slots := 0, locals := 83 }
set_option maxRecDepth 100000 in
set_option maxHeartbeats 4000000 in
theorem c_X1_allWater (l : Launch) (γ : GX) (a : Nat → Nat) (C0 : Ct) (hW : WFc C0) : MI l γ yX1_allWater wsX1_allWater rmX1_allWater [.ref (a 0)] (CT γ a C0) (fun r_ w_ => r_ = (Ct.allW C0) ∧ w_ = CT γ a (Ct.set_wa C0 (Ct.w C0))) 0 0 := by
  refine MI.of (cc := cX1_allWater) (maxL := 3) (rt := .int) RX1 rfl (by decide +kernel) rfl (Nat.le_of_ble_eq_true rfl) ?_
  intro X C hγ hl hnm hret
  subst hγ
  have hWn := WFc.n hW
  show Wx X 0 0 (CT X.γ a C0) 0 [(0, .ref (a 0))] []
  refine x_aload_n C 0 rfl rfl dX1_allWater_0 ?_
  refine x_V_V C (As := []) (rest := []) 0 0 rfl rfl gX1_allWater_X1_flood rfl (c_X1_flood _ _ a C0 hW) rfl ok_X1_flood rfl rfl rfl rfl dX1_allWater_1 (fun w1 hp => ?_)
  obtain rfl := hp
  refine x_iconst (v := 0) C dX1_allWater_4 ?_
  refine x_istore_n C [(1, .int (iN (0))), (0, .ref (a 0))] rfl (by decide) rfl dX1_allWater_5 ?_
  refine x_iconst (v := 0) C dX1_allWater_6 ?_
  refine x_istore_n C [(2, .int (iN (0))), (1, .int (iN (0))), (0, .ref (a 0))] rfl (by decide) rfl dX1_allWater_7 ?_
  have LP8 : ∀ (f : Nat) (k : Nat) (v2_8 : Int) (v1_8 : Int), (15 - k < f) → (k ≤ 15) → (v2_8 = ((k : Int))) → (v1_8 = (sumz (Ct.w C0) k)) → Wx X 0 0 (CT X.γ a (Ct.set_wa C0 (Ct.w C0))) 8 [(2, .int (iN (v2_8))), (1, .int (iN (v1_8))), (0, .ref (a 0))] [] := by
    intro f
    induction f with
    | zero => intro k v2_8 v1_8 hf; exact absurd hf (Nat.not_lt_zero _)
    | succ f ih8 =>
      intro k v2_8 v1_8 hf hk e2_8 e1_8
      subst e2_8
      refine x_iload_n C 0 rfl rfl dX1_allWater_8 ?_
      refine x_bipush C (15) (by decide) dX1_allWater_9 ?_
      refine x_icmp_ge C 29 (by decide) (by omega) dX1_allWater_11 (fun c_11 => ?_) (fun c_11 => ?_)
      · refine x_iload_n C 1 rfl rfl dX1_allWater_29 ?_
        exact hret _ _ _ _ dX1_allWater_30 rfl ⟨(by have hz : k = 15 := (by omega); subst hz; omega), rfl⟩
      · refine x_iload_n C 1 rfl rfl dX1_allWater_14 ?_
        refine x_aload_n C 2 rfl rfl dX1_allWater_15 ?_
        refine x_get C in_X1_allWater_X1 0 rfl rfl 12 (by decide) (List.mem_of_getElem? (i := 1) rfl) rfl (v := .ref (a 10)) rfl dX1_allWater_16 ?_
        refine x_iload_n C 0 rfl rfl dX1_allWater_19 ?_
        refine x_iaload C (f := (Ct.w C0)) 10 rfl (by omega) rfl dX1_allWater_20 ?_
        have b33 := WFc.w hW ((k : Int))
        refine x_iadd C dX1_allWater_21 ?_
        refine x_istore_n C [(1, .int (iN (v1_8 + ((Ct.w C0) (k : Int))))), (2, .int (iN ((k : Int)))), (0, .ref (a 0))] rfl (by decide) rfl dX1_allWater_22 ?_
        refine x_iinc C 1 [(2, .int (iN ((k : Int) + 1))), (1, .int (iN (v1_8 + ((Ct.w C0) (k : Int))))), (0, .ref (a 0))] rfl rfl (by decide) rfl dX1_allWater_23 ?_
        refine x_goto C 8 (by decide) dX1_allWater_26 ?_
        exact ih8 (k + 1) _ _ (by omega) (by omega) (by omega) (by simp only [sumz]; omega)
  exact LP8 ((15 - (0)) + 1) (0) _ _ (by omega) (by omega) (by omega) (rfl)
theorem in_X1_waterOf_X1 : ∀ w ∈ u_ws RX1 TX1 13, w ∈ wsX1_waterOf := by decide +kernel
theorem ok_X1_waterOf : okY yX1_waterOf 1 := by decide +kernel
def rmX1_waterOf : Room := { frames := 3, cells := 0, slots := 0, locals := 105 }
set_option maxRecDepth 100000 in
set_option maxHeartbeats 4000000 in
theorem c_X1_waterOf (l : Launch) (γ : GX) (a : Nat → Nat) (C0 : Ct) (hW : WFc C0) (cell : Int) (h0_ : -1 ≤ cell ∧ cell ≤ 14) : MI l γ yX1_waterOf wsX1_waterOf rmX1_waterOf [.ref (a 0), .int (iN (cell))] (CT γ a C0) (fun r_ w_ => r_ = (if 0 ≤ cell then Ct.w C0 cell else Ct.allW C0) ∧ w_ = CT γ a (Ct.set_wa C0 (Ct.w C0))) 0 0 := by
  refine MI.of (cc := cX1_waterOf) (maxL := 2) (rt := .int) RX1 rfl (by decide +kernel) rfl (Nat.le_of_ble_eq_true rfl) ?_
  intro X C hγ hl hnm hret
  subst hγ
  have hWn := WFc.n hW
  show Wx X 0 0 (CT X.γ a C0) 0 [(0, .ref (a 0)), (1, .int (iN (cell)))] []
  refine x_iload_n C 1 rfl rfl dX1_waterOf_0 ?_
  refine x_N_I C (As := [.int (iN (cell))]) (rest := []) (host := RX11) 1 gX1_waterOf_X11_isCell_n69 (List.mem_of_getElem? (i := 2) rfl) (List.mem_of_getElem? (i := 3) rfl) (List.mem_of_getElem? (i := 2) rfl) (c_X11_isCell _ _ (CT X.γ a C0) (cell) (by omega)) rfl ok_X11_isCell rfl rfl rfl rfl dX1_waterOf_1 (fun r w1 hp => ?_)
  obtain ⟨rfl, rfl⟩ := hp
  refine x_ifne_bz C 12 (by decide) dX1_waterOf_4 (fun c_4 => ?_) (fun c_4 => ?_)
  · refine x_aload_n C 0 rfl rfl dX1_waterOf_12 ?_
    refine x_V_V C (As := []) (rest := []) 0 0 rfl rfl gX1_waterOf_X1_flood rfl (c_X1_flood _ _ a C0 hW) rfl ok_X1_flood rfl rfl rfl rfl dX1_waterOf_13 (fun w1 hp => ?_)
    obtain rfl := hp
    refine x_aload_n C 0 rfl rfl dX1_waterOf_16 ?_
    refine x_get C in_X1_waterOf_X1 0 rfl rfl 12 (by decide) (List.mem_of_getElem? (i := 1) rfl) rfl (v := .ref (a 10)) rfl dX1_waterOf_17 ?_
    refine x_iload_n C 1 rfl rfl dX1_waterOf_20 ?_
    refine x_iaload C (f := (Ct.w C0)) 10 rfl (by omega) rfl dX1_waterOf_21 ?_
    have b34 := WFc.w hW (cell)
    exact hret _ _ _ _ dX1_waterOf_22 rfl ⟨(by omega), rfl⟩
  · refine x_aload_n C 0 rfl rfl dX1_waterOf_7 ?_
    refine x_V_I C (As := []) (rest := []) 0 0 rfl rfl gX1_waterOf_X1_allWater rfl (c_X1_allWater _ _ a C0 hW) rfl ok_X1_allWater rfl rfl rfl rfl dX1_waterOf_8 (fun r w1 hp => ?_)
    obtain ⟨rfl, rfl⟩ := hp
    have b35 := WFc.allW hW
    exact hret _ _ _ _ dX1_waterOf_11 rfl ⟨(by omega), rfl⟩
theorem in_X1_wetCells_X1 : ∀ w ∈ u_ws RX1 TX1 13, w ∈ wsX1_wetCells := by decide +kernel
theorem ok_X1_wetCells : okY yX1_wetCells 0 := by decide +kernel
def rmX1_wetCells : Room := { frames := 2, cells := 0, slots := 0, locals := 83 }
set_option maxRecDepth 100000 in
set_option maxHeartbeats 4000000 in
theorem c_X1_wetCells (l : Launch) (γ : GX) (a : Nat → Nat) (C0 : Ct) (hW : WFc C0) : MI l γ yX1_wetCells wsX1_wetCells rmX1_wetCells [.ref (a 0)] (CT γ a C0) (fun r_ w_ => r_ = (bitz (fun c => 0 < Ct.w C0 c) 15) ∧ w_ = CT γ a (Ct.set_wa C0 (Ct.w C0))) 0 0 := by
  refine MI.of (cc := cX1_wetCells) (maxL := 3) (rt := .int) RX1 rfl (by decide +kernel) rfl (Nat.le_of_ble_eq_true rfl) ?_
  intro X C hγ hl hnm hret
  subst hγ
  have hWn := WFc.n hW
  show Wx X 0 0 (CT X.γ a C0) 0 [(0, .ref (a 0))] []
  refine x_aload_n C 0 rfl rfl dX1_wetCells_0 ?_
  refine x_V_V C (As := []) (rest := []) 0 0 rfl rfl gX1_wetCells_X1_flood rfl (c_X1_flood _ _ a C0 hW) rfl ok_X1_flood rfl rfl rfl rfl dX1_wetCells_1 (fun w1 hp => ?_)
  obtain rfl := hp
  refine x_iconst (v := 0) C dX1_wetCells_4 ?_
  refine x_istore_n C [(1, .int (iN (0))), (0, .ref (a 0))] rfl (by decide) rfl dX1_wetCells_5 ?_
  refine x_iconst (v := 0) C dX1_wetCells_6 ?_
  refine x_istore_n C [(2, .int (iN (0))), (1, .int (iN (0))), (0, .ref (a 0))] rfl (by decide) rfl dX1_wetCells_7 ?_
  have LP8 : ∀ (f : Nat) (k : Nat) (v2_8 : Int) (v1_8 : Int), (15 - k < f) → (k ≤ 15) → (v2_8 = ((k : Int))) → (v1_8 = (bitz (fun c => 0 < Ct.w C0 c) k)) → Wx X 0 0 (CT X.γ a (Ct.set_wa C0 (Ct.w C0))) 8 [(2, .int (iN (v2_8))), (1, .int (iN (v1_8))), (0, .ref (a 0))] [] := by
    intro f
    induction f with
    | zero => intro k v2_8 v1_8 hf; exact absurd hf (Nat.not_lt_zero _)
    | succ f ih8 =>
      intro k v2_8 v1_8 hf hk e2_8 e1_8
      subst e2_8
      refine x_iload_n C 0 rfl rfl dX1_wetCells_8 ?_
      refine x_bipush C (15) (by decide) dX1_wetCells_9 ?_
      refine x_icmp_ge C 35 (by decide) (by omega) dX1_wetCells_11 (fun c_11 => ?_) (fun c_11 => ?_)
      · refine x_iload_n C 1 rfl rfl dX1_wetCells_35 ?_
        exact hret _ _ _ _ dX1_wetCells_36 rfl ⟨(by have hz : k = 15 := (by omega); subst hz; exact e1_8), rfl⟩
      · refine x_aload_n C 2 rfl rfl dX1_wetCells_14 ?_
        refine x_get C in_X1_wetCells_X1 0 rfl rfl 12 (by decide) (List.mem_of_getElem? (i := 1) rfl) rfl (v := .ref (a 10)) rfl dX1_wetCells_15 ?_
        refine x_iload_n C 0 rfl rfl dX1_wetCells_18 ?_
        refine x_iaload C (f := (Ct.w C0)) 10 rfl (by omega) rfl dX1_wetCells_19 ?_
        have b36 := WFc.w hW ((k : Int))
        refine x_if_le C 29 (by decide) (by omega) dX1_wetCells_20 (fun c_20 => ?_) (fun c_20 => ?_)
        · refine x_iinc C 0 [(2, .int (iN ((k : Int) + 1))), (1, .int (iN (v1_8))), (0, .ref (a 0))] rfl rfl (by decide) rfl dX1_wetCells_29 ?_
          refine x_goto C 8 (by decide) dX1_wetCells_32 ?_
          exact ih8 (k + 1) _ _ (by omega) (by omega) (by omega) (by simp only [bitz]; first | rw [if_pos c_20, e1_8] | rw [if_neg (by omega), e1_8])
        · refine x_iload_n C 1 rfl rfl dX1_wetCells_23 ?_
          refine x_iconst (v := 0) C dX1_wetCells_24 ?_
          refine x_iload_n C 0 rfl rfl dX1_wetCells_25 ?_
          refine x_ishl C (2 ^ k) (by rw [iN_shl1 (by omega), Int.toNat_natCast]) dX1_wetCells_26 ?_
          refine x_ior C (v1_8 + 2 ^ k) (by rw [e1_8]; exact iN_orp (bitz_b (fun c => 0 < Ct.w C0 c) k) (by omega)) dX1_wetCells_27 ?_
          refine x_istore_n C [(1, .int (iN (v1_8 + 2 ^ k))), (2, .int (iN ((k : Int)))), (0, .ref (a 0))] rfl (by decide) rfl dX1_wetCells_28 ?_
          refine x_iinc C 1 [(2, .int (iN ((k : Int) + 1))), (1, .int (iN (v1_8 + 2 ^ k))), (0, .ref (a 0))] rfl rfl (by decide) rfl dX1_wetCells_29 ?_
          refine x_goto C 8 (by decide) dX1_wetCells_32 ?_
          exact ih8 (k + 1) _ _ (by omega) (by omega) (by omega) (by simp only [bitz]; first | rw [if_pos c_20, e1_8] | rw [if_neg (by omega), e1_8])
  exact LP8 ((15 - (0)) + 1) (0) _ _ (by omega) (by omega) (by omega) (rfl)
theorem in_X1_walkFar_X1 : ∀ w ∈ u_ws RX1 TX1 13, w ∈ wsX1_walkFar := by decide +kernel
theorem ok_X1_walkFar : okY yX1_walkFar 2 := by decide +kernel
def rmX1_walkFar : Room := { frames := 3, cells := 0, slots := 0, locals := 65 }
set_option maxRecDepth 100000 in
set_option maxHeartbeats 4000000 in
theorem c_X1_walkFar (l : Launch) (γ : GX) (a : Nat → Nat) (C0 : Ct) (hW : WFc C0) (i : Int) (b : Int) (h0_ : 0 ≤ i ∧ i < 6) (h1_ : -1 ≤ b ∧ b ≤ 1) : MI l γ yX1_walkFar wsX1_walkFar rmX1_walkFar [.ref (a 0), .int (iN (i)), .int (iN (b))] (CT γ a C0) (fun r_ w_ => r_ = (Ct.wk C0 i b 15) i ∧ w_ = CT γ a (Ct.set_po C0 (Ct.wk C0 i b 15))) 0 0 := by
  refine MI.of (cc := cX1_walkFar) (maxL := 4) (rt := .int) RX1 rfl (by decide +kernel) rfl (Nat.le_of_ble_eq_true rfl) ?_
  intro X C hγ hl hnm hret
  subst hγ
  have hWn := WFc.n hW
  show Wx X 0 0 (CT X.γ a C0) 0 [(0, .ref (a 0)), (1, .int (iN (i))), (2, .int (iN (b)))] []
  refine x_iconst (v := 0) C dX1_walkFar_0 ?_
  refine x_istore_n C [(3, .int (iN (0))), (0, .ref (a 0)), (1, .int (iN (i))), (2, .int (iN (b)))] rfl (by decide) rfl dX1_walkFar_1 ?_
  have LP2 : ∀ (f : Nat) (k : Nat) (v3_2 : Int), (15 - k < f) → (k ≤ 15) → (v3_2 = ((k : Int))) → Wx X 0 0 (CT X.γ a (Ct.set_po C0 (Ct.wk C0 i b k))) 2 [(3, .int (iN (v3_2))), (0, .ref (a 0)), (1, .int (iN (i))), (2, .int (iN (b)))] [] := by
    intro f
    induction f with
    | zero => intro k v3_2 hf; exact absurd hf (Nat.not_lt_zero _)
    | succ f ih2 =>
      intro k v3_2 hf hk e3_2
      subst e3_2
      refine x_iload_n C 0 rfl rfl dX1_walkFar_2 ?_
      refine x_bipush C (15) (by decide) dX1_walkFar_3 ?_
      refine x_icmp_ge C 33 (by decide) (by omega) dX1_walkFar_5 (fun c_5 => ?_) (fun c_5 => ?_)
      · have hE : Ct.wk C0 i b 15 = Ct.wk C0 i b k := by
          have hz : k = 15 := (by omega)
          subst hz; rfl
        refine x_aload_n C 1 rfl rfl dX1_walkFar_33 ?_
        refine x_get C in_X1_walkFar_X1 0 rfl rfl 7 (by decide) (List.mem_of_getElem? (i := 1) rfl) rfl (v := .ref (a 5)) rfl dX1_walkFar_34 ?_
        refine x_iload_n C 2 rfl rfl dX1_walkFar_37 ?_
        refine x_iaload C (f := (Ct.wk C0 i b k)) 5 rfl (by omega) rfl dX1_walkFar_38 ?_
        have b37 := (Ct.wk_ok (i := i) (b := b) hW k) (i)
        exact hret _ _ _ _ dX1_walkFar_39 rfl ⟨(by rw [hE]), (by rw [hE])⟩
      · refine x_aload_n C 1 rfl rfl dX1_walkFar_8 ?_
        refine x_iload_n C 2 rfl rfl dX1_walkFar_9 ?_
        refine x_iload_n C 3 rfl rfl dX1_walkFar_10 ?_
        refine x_V_I C (As := [.int (iN (i)), .int (iN (b))]) (rest := []) 2 0 rfl rfl gX1_walkFar_X1_mayGo rfl (c_X1_mayGo _ _ a (Ct.set_po C0 (Ct.wk C0 i b k)) (WFc.posn hW (Ct.wk_ok (i := i) (b := b) hW k)) (i) (b) (by omega) (by omega)) rfl ok_X1_mayGo rfl rfl rfl rfl dX1_walkFar_11 (fun r w1 hp => ?_)
        obtain ⟨rfl, rfl⟩ := hp
        refine x_ifeq_bz C 33 (by decide) dX1_walkFar_14 (fun c_14 => ?_) (fun c_14 => ?_)
        · have hE : Ct.wk C0 i b 15 = Ct.wk C0 i b k := by
            have hz := wkF_stop c_14 (15 - k)
            rw [show k + (15 - k) = 15 by omega] at hz; exact hz
          refine x_aload_n C 1 rfl rfl dX1_walkFar_33 ?_
          refine x_get C in_X1_walkFar_X1 0 rfl rfl 7 (by decide) (List.mem_of_getElem? (i := 1) rfl) rfl (v := .ref (a 5)) rfl dX1_walkFar_34 ?_
          refine x_iload_n C 2 rfl rfl dX1_walkFar_37 ?_
          refine x_iaload C (f := (Ct.wk C0 i b k)) 5 rfl (by omega) rfl dX1_walkFar_38 ?_
          have b38 := (Ct.wk_ok (i := i) (b := b) hW k) (i)
          exact hret _ _ _ _ dX1_walkFar_39 rfl ⟨(by rw [hE]), (by rw [hE])⟩
        · refine x_aload_n C 1 rfl rfl dX1_walkFar_17 ?_
          refine x_get C in_X1_walkFar_X1 0 rfl rfl 7 (by decide) (List.mem_of_getElem? (i := 1) rfl) rfl (v := .ref (a 5)) rfl dX1_walkFar_18 ?_
          refine x_iload_n C 2 rfl rfl dX1_walkFar_21 ?_
          refine x_dup2 C rfl rfl dX1_walkFar_22 ?_
          refine x_iaload C (f := (Ct.wk C0 i b k)) 5 rfl (by omega) rfl dX1_walkFar_23 ?_
          have b39 := (Ct.wk_ok (i := i) (b := b) hW k) (i)
          refine x_iload_n C 3 rfl rfl dX1_walkFar_24 ?_
          refine x_iadd C dX1_walkFar_25 ?_
          refine x_iastore C (f := (Ct.wk C0 i b k)) 5 rfl (by omega) rfl (CT X.γ a (Ct.set_po C0 (upz (Ct.wk C0 i b k) i (((Ct.wk C0 i b k) i) + b)))) rfl dX1_walkFar_26 ?_
          refine x_iinc C 0 [(3, .int (iN ((k : Int) + 1))), (0, .ref (a 0)), (1, .int (iN (i))), (2, .int (iN (b)))] rfl rfl (by decide) rfl dX1_walkFar_27 ?_
          refine x_goto C 2 (by decide) dX1_walkFar_30 ?_
          have hS : Ct.wk C0 i b (k + 1) = upz (Ct.wk C0 i b k) i (Ct.wk C0 i b k i + b) := if_pos c_14
          refine Wx.eqW (ws' := (CT X.γ a (Ct.set_po C0 (Ct.wk C0 i b (k + 1))))) (by rw [hS]) ?_
          exact ih2 (k + 1) _ (by omega) (by omega) (by omega)
  exact LP2 ((15 - (0)) + 1) (0) _ (by omega) (by omega) (by omega)
theorem in_X1_gather_X1 : ∀ w ∈ u_ws RX1 TX1 13, w ∈ wsX1_gather := by decide +kernel
theorem ok_X1_gather : okY yX1_gather 2 := by decide +kernel
def rmX1_gather : Room := { frames := 1, cells := 0, slots := 0, locals := 21 }
set_option maxRecDepth 100000 in
set_option maxHeartbeats 4000000 in
theorem c_X1_gather (l : Launch) (γ : GX) (a : Nat → Nat) (C0 : Ct) (hW : WFc C0) (i : Int) (al : Int) (h0_ : 0 ≤ i ∧ i < 6) (h1_ : 0 ≤ al ∧ al < 2147483648) : MV l γ yX1_gather wsX1_gather rmX1_gather [.ref (a 0), .int (iN (i)), .int (iN (al))] (CT γ a C0) (fun w_ => w_ = CT γ a (Ct.set_po C0 (gth (Ct.n C0) al i (Ct.po C0)))) 0 0 := by
  refine MV.of (cc := cX1_gather) (maxL := 4) RX1 rfl (by decide +kernel) rfl (Nat.le_of_ble_eq_true rfl) ?_
  intro X C hγ hl hnm hret
  subst hγ
  have hWn := WFc.n hW
  show Wx X 0 0 (CT X.γ a C0) 0 [(0, .ref (a 0)), (1, .int (iN (i))), (2, .int (iN (al)))] []
  refine x_iconst (v := 0) C dX1_gather_0 ?_
  refine x_istore_n C [(3, .int (iN (0))), (0, .ref (a 0)), (1, .int (iN (i))), (2, .int (iN (al)))] rfl (by decide) rfl dX1_gather_1 ?_
  have LP2 : ∀ (f : Nat) (k : Nat) (G : Int → Int) (v3_2 : Int), ((Ct.n C0).toNat - k < f) → (k ≤ (Ct.n C0).toNat) → (∀ j : Int, 0 ≤ j → j < (k : Int) → G j = gth (Ct.n C0) al i (Ct.po C0) j) → (∀ j : Int, (k : Int) ≤ j → G j = Ct.po C0 j) → (G i = Ct.po C0 i) → (v3_2 = ((k : Int))) → Wx X 0 0 (CT X.γ a (Ct.set_po C0 (G))) 2 [(3, .int (iN (v3_2))), (0, .ref (a 0)), (1, .int (iN (i))), (2, .int (iN (al)))] [] := by
    intro f
    induction f with
    | zero => intro k G v3_2 hf; exact absurd hf (Nat.not_lt_zero _)
    | succ f ih2 =>
      intro k G v3_2 hf hk hG hH hI e3_2
      subst e3_2
      refine x_iload_n C 0 rfl rfl dX1_gather_2 ?_
      refine x_aload_n C 1 rfl rfl dX1_gather_3 ?_
      refine x_get C in_X1_gather_X1 0 rfl rfl 2 (by decide) (List.mem_of_getElem? (i := 1) rfl) rfl (v := .int (iN (Ct.n C0))) rfl dX1_gather_4 ?_
      refine x_icmp_ge C 36 (by decide) (by omega) dX1_gather_7 (fun c_7 => ?_) (fun c_7 => ?_)
      · refine x_canonI (f := G) (g := gth (Ct.n C0) al i (Ct.po C0)) 5 rfl (fun j h1 h2 => if q : j < (k : Int) then hG j h1 q else (by rw [hH j (by omega)]; unfold gth; rw [if_neg (by omega)])) (CT X.γ a (Ct.set_po C0 (gth (Ct.n C0) al i (Ct.po C0)))) rfl ?_
        exact hret _ _ _ dX1_gather_36 rfl
      · refine x_iload_n C 3 rfl rfl dX1_gather_10 ?_
        refine x_iload_n C 0 rfl rfl dX1_gather_11 ?_
        refine x_N_I C (As := [.int (iN (al)), .int (iN ((k : Int)))]) (rest := []) (host := RX11) 2 gX1_gather_X11_isIn_n112 (List.mem_of_getElem? (i := 4) rfl) (List.mem_of_getElem? (i := 4) rfl) (List.mem_of_getElem? (i := 3) rfl) (c_X11_isIn _ _ (CT X.γ a (Ct.set_po C0 (G))) (al) ((k : Int)) (by omega) (by omega)) rfl ok_X11_isIn rfl rfl rfl rfl dX1_gather_12 (fun r w1 hp => ?_)
        obtain ⟨rfl, rfl⟩ := hp
        refine x_ifeq_bz C 30 (by decide) dX1_gather_15 (fun c_15 => ?_) (fun c_15 => ?_)
        · refine x_iinc C 0 [(3, .int (iN ((k : Int) + 1))), (0, .ref (a 0)), (1, .int (iN (i))), (2, .int (iN (al)))] rfl rfl (by decide) rfl dX1_gather_30 ?_
          refine x_goto C 2 (by decide) dX1_gather_33 ?_
          exact ih2 (k + 1) (G) _ (by omega) (by omega) (fun j h1 h2 => if q : j = (k : Int) then (by subst q; unfold gth; rw [hH _ (by omega), if_neg (fun z => c_15 z.2.2)]) else (hG j h1 (by omega))) (fun j h1 => hH j (by omega)) (hI) (by omega)
        · refine x_aload_n C 1 rfl rfl dX1_gather_18 ?_
          refine x_get C in_X1_gather_X1 0 rfl rfl 7 (by decide) (List.mem_of_getElem? (i := 2) rfl) rfl (v := .ref (a 5)) rfl dX1_gather_19 ?_
          refine x_iload_n C 0 rfl rfl dX1_gather_22 ?_
          refine x_aload_n C 1 rfl rfl dX1_gather_23 ?_
          refine x_get C in_X1_gather_X1 0 rfl rfl 7 (by decide) (List.mem_of_getElem? (i := 2) rfl) rfl (v := .ref (a 5)) rfl dX1_gather_24 ?_
          refine x_iload_n C 2 rfl rfl dX1_gather_27 ?_
          refine x_iaload C (f := G) 5 rfl (by omega) rfl dX1_gather_28 ?_
          refine x_iastore C (f := G) 5 rfl (by omega) rfl (CT X.γ a (Ct.set_po C0 (upz G (k : Int) (G i)))) rfl dX1_gather_29 ?_
          refine x_iinc C 0 [(3, .int (iN ((k : Int) + 1))), (0, .ref (a 0)), (1, .int (iN (i))), (2, .int (iN (al)))] rfl rfl (by decide) rfl dX1_gather_30 ?_
          refine x_goto C 2 (by decide) dX1_gather_33 ?_
          exact ih2 (k + 1) (upz G (k : Int) (G i)) _ (by omega) (by omega) (fun j h1 h2 => if q : j = (k : Int) then (by subst q; unfold gth; rw [upz_s, hI, if_pos ⟨by omega, by omega, c_15⟩]) else (by rw [upz_n q]; exact hG j h1 (by omega))) (fun j h1 => by rw [upz_n (by omega)]; exact hH j (by omega)) (if q : i = (k : Int) then (by rw [← q, upz_s]; exact hI) else (by rw [upz_n q]; exact hI)) (by omega)
  exact LP2 (((Ct.n C0).toNat - (0)) + 1) (0) (Ct.po C0) _ (by omega) (by omega) (fun j h1 h2 => by omega) (fun j h1 => rfl) (rfl) (by omega)
theorem in_X1_walkTo_X1 : ∀ w ∈ u_ws RX1 TX1 13, w ∈ wsX1_walkTo := by decide +kernel
theorem ok_X1_walkTo : okY yX1_walkTo 3 := by decide +kernel
def rmX1_walkTo : Room := { frames := 3, cells := 0, slots := 0, locals := 65 }
set_option maxRecDepth 100000 in
set_option maxHeartbeats 4000000 in
theorem c_X1_walkTo (l : Launch) (γ : GX) (a : Nat → Nat) (C0 : Ct) (hW : WFc C0) (i : Int) (al : Int) (cell : Int) (h0_ : 0 ≤ i ∧ i < 6) (h1_ : 0 ≤ al ∧ al < 2147483648) (h2_ : 0 ≤ cell ∧ cell ≤ 14) : MI l γ yX1_walkTo wsX1_walkTo rmX1_walkTo [.ref (a 0), .int (iN (i)), .int (iN (al)), .int (iN (cell))] (CT γ a C0) (fun r_ w_ => ∃ P, bd P 0 14 ∧ r_ = Ct.wt C0 i al cell (if cell < Ct.po C0 i then -1 else 1) 15 (Ct.po C0) ∧ w_ = CT γ a (Ct.set_po C0 P)) 0 0 := by
  refine MI.of (cc := cX1_walkTo) (maxL := 6) (rt := .boolean) RX1 rfl (by decide +kernel) rfl (Nat.le_of_ble_eq_true rfl) ?_
  intro X C hγ hl hnm hret
  subst hγ
  have hWn := WFc.n hW
  show Wx X 0 0 (CT X.γ a C0) 0 [(0, .ref (a 0)), (1, .int (iN (i))), (2, .int (iN (al))), (3, .int (iN (cell)))] []
  refine x_iload_n C 3 rfl rfl dX1_walkTo_0 ?_
  refine x_aload_n C 0 rfl rfl dX1_walkTo_1 ?_
  refine x_get C in_X1_walkTo_X1 0 rfl rfl 7 (by decide) (List.mem_of_getElem? (i := 1) rfl) rfl (v := .ref (a 5)) rfl dX1_walkTo_2 ?_
  refine x_iload_n C 1 rfl rfl dX1_walkTo_5 ?_
  refine x_iaload C (f := Ct.po C0) 5 rfl (by omega) rfl dX1_walkTo_6 ?_
  have b41 := WFc.po hW (i)
  have LP15 : ∀ (s0_15 : Int), (s0_15 = (if cell < Ct.po C0 i then -1 else 1)) → Wx X 0 0 (CT X.γ a C0) 15 [(0, .ref (a 0)), (1, .int (iN (i))), (2, .int (iN (al))), (3, .int (iN (cell)))] [.int (iN (s0_15))] := by
    intro s0_15 es0_15
    refine x_istore C [(4, .int (iN (s0_15))), (0, .ref (a 0)), (1, .int (iN (i))), (2, .int (iN (al))), (3, .int (iN (cell)))] (by decide) rfl dX1_walkTo_15 ?_
    refine x_iconst (v := 0) C dX1_walkTo_17 ?_
    refine x_istore C [(5, .int (iN (0))), (4, .int (iN (s0_15))), (0, .ref (a 0)), (1, .int (iN (i))), (2, .int (iN (al))), (3, .int (iN (cell)))] (by decide) rfl dX1_walkTo_18 ?_
    have LP20 : ∀ (f : Nat) (k : Nat) (P : Int → Int) (v5_20 : Int), (15 - k < f) → (k ≤ 15) → (bd P 0 14) → (Ct.wt C0 i al cell s0_15 15 (Ct.po C0) = Ct.wt C0 i al cell s0_15 (15 - k) P) → (v5_20 = ((k : Int))) → Wx X 0 0 (CT X.γ a (Ct.set_po C0 (P))) 20 [(5, .int (iN (v5_20))), (4, .int (iN (s0_15))), (0, .ref (a 0)), (1, .int (iN (i))), (2, .int (iN (al))), (3, .int (iN (cell)))] [] := by
      intro f
      induction f with
      | zero => intro k P v5_20 hf; exact absurd hf (Nat.not_lt_zero _)
      | succ f ih20 =>
        intro k P v5_20 hf hk hP hw e5_20
        subst e5_20
        refine x_iload C 0 rfl dX1_walkTo_20 ?_
        refine x_bipush C (15) (by decide) dX1_walkTo_22 ?_
        refine x_icmp_ge C 72 (by decide) (by omega) dX1_walkTo_24 (fun c_24 => ?_) (fun c_24 => ?_)
        · refine x_iconst (v := 0) C dX1_walkTo_72 ?_
          exact hret _ _ _ _ dX1_walkTo_73 (nar_z (by decide)) ⟨_, hP, (by rw [← es0_15, hw]; first | (rw [show 15 - k = 0 by omega]; rfl) | (rw [show 15 - k = (15 - (k + 1)) + 1 by omega]; simp only [Ct.wt, wto]; rw [if_pos c_34])), rfl⟩
        · refine x_aload_n C 2 rfl rfl dX1_walkTo_27 ?_
          refine x_get C in_X1_walkTo_X1 0 rfl rfl 7 (by decide) (List.mem_of_getElem? (i := 1) rfl) rfl (v := .ref (a 5)) rfl dX1_walkTo_28 ?_
          refine x_iload_n C 3 rfl rfl dX1_walkTo_31 ?_
          refine x_iaload C (f := P) 5 rfl (by omega) rfl dX1_walkTo_32 ?_
          have b42 := hP (i)
          refine x_iload_n C 5 rfl rfl dX1_walkTo_33 ?_
          refine x_icmp_eq C 72 (by decide) (by omega) dX1_walkTo_34 (fun c_34 => ?_) (fun c_34 => ?_)
          · refine x_iconst (v := 0) C dX1_walkTo_72 ?_
            exact hret _ _ _ _ dX1_walkTo_73 (nar_z (by decide)) ⟨_, hP, (by rw [← es0_15, hw]; first | (rw [show 15 - k = 0 by omega]; rfl) | (rw [show 15 - k = (15 - (k + 1)) + 1 by omega]; simp only [Ct.wt, wto]; rw [if_pos c_34])), rfl⟩
          · refine x_aload_n C 2 rfl rfl dX1_walkTo_37 ?_
            refine x_iload_n C 3 rfl rfl dX1_walkTo_38 ?_
            refine x_iload_n C 4 rfl rfl dX1_walkTo_39 ?_
            refine x_V_V C (As := [.int (iN (i)), .int (iN (al))]) (rest := []) 2 0 rfl rfl gX1_walkTo_X1_gather rfl (c_X1_gather _ _ a (Ct.set_po C0 (P)) (WFc.posn hW hP) (i) (al) (by omega) (by omega)) rfl ok_X1_gather rfl rfl rfl rfl dX1_walkTo_40 (fun w1 hp => ?_)
            obtain rfl := hp
            refine x_aload_n C 2 rfl rfl dX1_walkTo_43 ?_
            refine x_iload_n C 3 rfl rfl dX1_walkTo_44 ?_
            refine x_iload C 1 rfl dX1_walkTo_45 ?_
            refine x_V_I C (As := [.int (iN (i)), .int (iN (s0_15))]) (rest := []) 2 0 rfl rfl gX1_walkTo_X1_mayGo rfl (c_X1_mayGo _ _ a (Ct.set_po C0 (gth (Ct.n C0) (al) (i) P)) (WFc.posn hW (gth_ok (n := Ct.n C0) (al := al) (i := i) hP)) (i) (s0_15) (by omega) (by omega)) rfl ok_X1_mayGo rfl rfl rfl rfl dX1_walkTo_47 (fun r w1 hp => ?_)
            obtain ⟨rfl, rfl⟩ := hp
            refine x_ifne_bz C 55 (by decide) dX1_walkTo_50 (fun c_50 => ?_) (fun c_50 => ?_)
            · refine x_aload_n C 2 rfl rfl dX1_walkTo_55 ?_
              refine x_get C in_X1_walkTo_X1 0 rfl rfl 7 (by decide) (List.mem_of_getElem? (i := 1) rfl) rfl (v := .ref (a 5)) rfl dX1_walkTo_56 ?_
              refine x_iload_n C 3 rfl rfl dX1_walkTo_59 ?_
              refine x_dup2 C rfl rfl dX1_walkTo_60 ?_
              refine x_iaload C (f := (gth (Ct.n C0) (al) (i) P)) 5 rfl (by omega) rfl dX1_walkTo_61 ?_
              have b43 := (gth_ok (n := Ct.n C0) (al := al) (i := i) hP) (i)
              refine x_iload C 1 rfl dX1_walkTo_62 ?_
              refine x_iadd C dX1_walkTo_64 ?_
              refine x_iastore C (f := (gth (Ct.n C0) (al) (i) P)) 5 rfl (by omega) rfl (CT X.γ a (Ct.set_po C0 (upz (gth (Ct.n C0) (al) (i) P) i (((gth (Ct.n C0) (al) (i) P) i) + s0_15)))) rfl dX1_walkTo_65 ?_
              refine x_iinc C 0 [(5, .int (iN ((k : Int) + 1))), (4, .int (iN (s0_15))), (0, .ref (a 0)), (1, .int (iN (i))), (2, .int (iN (al))), (3, .int (iN (cell)))] rfl rfl (by decide) rfl dX1_walkTo_66 ?_
              refine x_goto C 20 (by decide) dX1_walkTo_69 ?_
              exact ih20 (k + 1) (upz (gth (Ct.n C0) (al) (i) P) i (((gth (Ct.n C0) (al) (i) P) i) + s0_15)) _ (by omega) (by omega) (bd_upz (gth_ok hP) c_50.1) (by rw [hw]; rw [show 15 - k = (15 - (k + 1)) + 1 by omega]; simp only [Ct.wt, wto]; rw [if_neg c_34, if_pos c_50]) (by omega)
            · refine x_iconst (v := 0) C dX1_walkTo_53 ?_
              exact hret _ _ _ _ dX1_walkTo_54 (nar_z (by decide)) ⟨_, (gth_ok hP), (by rw [← es0_15, hw, show 15 - k = (15 - (k + 1)) + 1 by omega]; simp only [Ct.wt, wto]; rw [if_neg c_34, if_neg c_50]), rfl⟩
    exact LP20 ((15 - (0)) + 1) (0) (Ct.po C0) _ (by omega) (by omega) (WFc.po hW) (rfl) (by omega)
  refine x_icmp_ge C 14 (by decide) (by omega) dX1_walkTo_7 (fun c_7 => ?_) (fun c_7 => ?_)
  · refine x_iconst (v := 0) C dX1_walkTo_14 ?_
    exact LP15 _ (by omega)
  · refine x_iconst (v := 0) C dX1_walkTo_10 ?_
    refine x_goto C 15 (by decide) dX1_walkTo_11 ?_
    exact LP15 _ (by omega)
end HCT
