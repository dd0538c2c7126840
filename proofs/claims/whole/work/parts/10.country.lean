section HCT
theorem in_X1_level_X1 : ∀ w ∈ u_ws RX1 TX1 13, w ∈ wsX1_level := by decide +kernel
theorem ok_X1_level : okY yX1_level 1 := by decide +kernel
def rmX1_level : Room := { frames := 0, cells := 0, slots := 0, locals := 0 }
set_option maxRecDepth 100000 in
set_option maxHeartbeats 4000000 in
theorem c_X1_level (l : Launch) (γ : GX) (a : Nat → Nat) (C0 : Ct) (hW : WFc C0) (cell : Int) (h0_ : 0 ≤ cell ∧ cell < 15) : MI l γ yX1_level wsX1_level rmX1_level [.ref (a 0), .int (iN (cell))] (CT γ a C0) (fun r w => r = Ct.g C0 cell ∧ w = CT γ a C0) 0 0 := by
  refine MI.of (cc := cX1_level) (maxL := 5) (rt := .int) RX1 rfl (by decide +kernel) rfl (Nat.le_of_ble_eq_true rfl) ?_
  intro X C hγ hl hnm hret
  subst hγ
  have hWn := WFc.n hW
  show Wx X 0 0 (CT X.γ a C0) 0 [(0, .ref (a 0)), (1, .int (iN (cell)))] []
  refine x_aload_n C 0 rfl rfl dX1_level_0 ?_
  refine x_get C in_X1_level_X1 0 rfl rfl 1 (by decide) (List.mem_of_getElem? (i := 1) rfl) rfl (v := .ref (a 1)) rfl dX1_level_1 ?_
  refine x_iload_n C 1 rfl rfl dX1_level_4 ?_
  refine x_iaload C (f := Ct.h C0) 1 rfl (by omega) rfl dX1_level_5 ?_
  have b1 := WFc.h hW (cell)
  refine x_istore_n C [(2, .int (iN (Ct.h C0 cell))), (0, .ref (a 0)), (1, .int (iN (cell)))] rfl (by decide) rfl dX1_level_6 ?_
  refine x_iconst (v := 0) C dX1_level_7 ?_
  refine x_istore_n C [(3, .int (iN (0))), (2, .int (iN (Ct.h C0 cell))), (0, .ref (a 0)), (1, .int (iN (cell)))] rfl (by decide) rfl dX1_level_8 ?_
  have LP9 : ∀ (f : Nat) (w : Nat) (v3_9 : Int) (v2_9 : Int), (Ct.n C0).toNat - w < f → w ≤ (Ct.n C0).toNat → v3_9 = (w : Int) → v2_9 = Ct.h C0 cell - psm (Ct.po C0) (Ct.pr C0) (Ct.sp C0) cell w → Wx X 0 0 (CT X.γ a C0) 9 [(3, .int (iN (v3_9))), (2, .int (iN (v2_9))), (0, .ref (a 0)), (1, .int (iN (cell)))] [] := by
    intro f
    induction f with
    | zero => intro w v3_9 v2_9 hf; exact absurd hf (Nat.not_lt_zero _)
    | succ f ih9 =>
      intro w v3_9 v2_9 hf hw e3_9 e2_9
      subst e3_9
      refine x_iload_n C 0 rfl rfl dX1_level_9 ?_
      refine x_aload_n C 2 rfl rfl dX1_level_10 ?_
      refine x_get C in_X1_level_X1 0 rfl rfl 2 (by decide) (List.mem_of_getElem? (i := 2) rfl) rfl (v := .int (iN (Ct.n C0))) rfl dX1_level_11 ?_
      refine x_icmp_ge C 88 (by decide) (by omega) dX1_level_14 (fun c_14 => ?_) (fun c_14 => ?_)
      · refine x_iload_n C 1 rfl rfl dX1_level_88 ?_
        refine x_if_ge C 96 (by decide) (by omega) dX1_level_89 (fun c_89 => ?_) (fun c_89 => ?_)
        · refine x_iload_n C 1 rfl rfl dX1_level_96 ?_
          exact hret _ _ _ _ dX1_level_97 rfl ⟨by have hz : w = (Ct.n C0).toNat := by omega
                subst hz; simp only [Ct.g, gnd]; omega, rfl⟩
        · refine x_iconst (v := 0) C dX1_level_92 ?_
          refine x_goto C 97 (by decide) dX1_level_93 ?_
          exact hret _ _ _ _ dX1_level_97 rfl ⟨by have hz : w = (Ct.n C0).toNat := by omega
                subst hz; simp only [Ct.g, gnd]; omega, rfl⟩
      · refine x_aload_n C 2 rfl rfl dX1_level_17 ?_
        refine x_get C in_X1_level_X1 0 rfl rfl 7 (by decide) (List.mem_of_getElem? (i := 3) rfl) rfl (v := .ref (a 5)) rfl dX1_level_18 ?_
        refine x_iload_n C 0 rfl rfl dX1_level_21 ?_
        refine x_iaload C (f := Ct.po C0) 5 rfl (by omega) rfl dX1_level_22 ?_
        have b2 := WFc.po hW ((w : Int))
        refine x_iload_n C 3 rfl rfl dX1_level_23 ?_
        have LP46 : ∀ (s0_46 : Int), s0_46 = if Ct.po C0 (w : Int) < cell then cell - Ct.po C0 (w : Int) else Ct.po C0 (w : Int) - cell → Wx X 0 0 (CT X.γ a C0) 46 [(3, .int (iN ((w : Int)))), (2, .int (iN (v2_9))), (0, .ref (a 0)), (1, .int (iN (cell)))] [.int (iN (s0_46))] := by
          intro s0_46 es0_46
          refine x_istore C [(4, .int (iN (s0_46))), (3, .int (iN ((w : Int)))), (2, .int (iN (v2_9))), (0, .ref (a 0)), (1, .int (iN (cell)))] (by decide) rfl dX1_level_46 ?_
          refine x_iload C 0 rfl dX1_level_48 ?_
          refine x_aload_n C 3 rfl rfl dX1_level_50 ?_
          refine x_get C in_X1_level_X1 0 rfl rfl 10 (by decide) (List.mem_of_getElem? (i := 4) rfl) rfl (v := .ref (a 8)) rfl dX1_level_51 ?_
          refine x_iload_n C 1 rfl rfl dX1_level_54 ?_
          refine x_iaload C (f := Ct.sp C0) 8 rfl (by omega) rfl dX1_level_55 ?_
          have b3 := WFc.sp hW ((w : Int))
          refine x_icmp_gt C 82 (by decide) (by omega) dX1_level_56 (fun c_56 => ?_) (fun c_56 => ?_)
          · refine x_iinc C 1 [(3, .int (iN ((w : Int) + 1))), (4, .int (iN (s0_46))), (2, .int (iN (v2_9))), (0, .ref (a 0)), (1, .int (iN (cell)))] rfl rfl (by decide) rfl dX1_level_82 ?_
            refine x_goto C 9 (by decide) dX1_level_85 ?_
            refine Wx.subL [0, 2, 3, 4] rfl ?_
            exact ih9 (w + 1) _ _ (by omega) (by omega) (by omega) (by simp only [psm, ones]; omega)
          · refine x_iload C 0 rfl dX1_level_59 ?_
            refine x_aload_n C 3 rfl rfl dX1_level_61 ?_
            refine x_get C in_X1_level_X1 0 rfl rfl 9 (by decide) (List.mem_of_getElem? (i := 5) rfl) rfl (v := .ref (a 7)) rfl dX1_level_62 ?_
            refine x_iload_n C 1 rfl rfl dX1_level_65 ?_
            refine x_iaload C (f := Ct.pr C0) 7 rfl (by omega) rfl dX1_level_66 ?_
            have b4 := WFc.pr hW ((w : Int))
            refine x_icmp_ge C 82 (by decide) (by omega) dX1_level_67 (fun c_67 => ?_) (fun c_67 => ?_)
            · refine x_iinc C 1 [(3, .int (iN ((w : Int) + 1))), (4, .int (iN (s0_46))), (2, .int (iN (v2_9))), (0, .ref (a 0)), (1, .int (iN (cell)))] rfl rfl (by decide) rfl dX1_level_82 ?_
              refine x_goto C 9 (by decide) dX1_level_85 ?_
              refine Wx.subL [0, 2, 3, 4] rfl ?_
              exact ih9 (w + 1) _ _ (by omega) (by omega) (by omega) (by simp only [psm, ones]; omega)
            · refine x_iload_n C 2 rfl rfl dX1_level_70 ?_
              refine x_aload_n C 3 rfl rfl dX1_level_71 ?_
              refine x_get C in_X1_level_X1 0 rfl rfl 9 (by decide) (List.mem_of_getElem? (i := 5) rfl) rfl (v := .ref (a 7)) rfl dX1_level_72 ?_
              refine x_iload_n C 1 rfl rfl dX1_level_75 ?_
              refine x_iaload C (f := Ct.pr C0) 7 rfl (by omega) rfl dX1_level_76 ?_
              have b5 := WFc.pr hW ((w : Int))
              refine x_iload C 0 rfl dX1_level_77 ?_
              refine x_isub C dX1_level_79 ?_
              refine x_isub C dX1_level_80 ?_
              refine x_istore_n C [(2, .int (iN (v2_9 - ((Ct.pr C0 (w : Int)) - s0_46)))), (4, .int (iN (s0_46))), (3, .int (iN ((w : Int)))), (0, .ref (a 0)), (1, .int (iN (cell)))] rfl (by decide) rfl dX1_level_81 ?_
              refine x_iinc C 2 [(3, .int (iN ((w : Int) + 1))), (2, .int (iN (v2_9 - ((Ct.pr C0 (w : Int)) - s0_46)))), (4, .int (iN (s0_46))), (0, .ref (a 0)), (1, .int (iN (cell)))] rfl rfl (by decide) rfl dX1_level_82 ?_
              refine x_goto C 9 (by decide) dX1_level_85 ?_
              refine Wx.subL [0, 1, 3, 4] rfl ?_
              exact ih9 (w + 1) _ _ (by omega) (by omega) (by omega) (by simp only [psm, ones]; omega)
        refine x_icmp_ge C 38 (by decide) (by omega) dX1_level_24 (fun c_24 => ?_) (fun c_24 => ?_)
        · refine x_aload_n C 2 rfl rfl dX1_level_38 ?_
          refine x_get C in_X1_level_X1 0 rfl rfl 7 (by decide) (List.mem_of_getElem? (i := 3) rfl) rfl (v := .ref (a 5)) rfl dX1_level_39 ?_
          refine x_iload_n C 0 rfl rfl dX1_level_42 ?_
          refine x_iaload C (f := Ct.po C0) 5 rfl (by omega) rfl dX1_level_43 ?_
          have b6 := WFc.po hW ((w : Int))
          refine x_iload_n C 3 rfl rfl dX1_level_44 ?_
          refine x_isub C dX1_level_45 ?_
          exact LP46 _ (by omega)
        · refine x_iload_n C 3 rfl rfl dX1_level_27 ?_
          refine x_aload_n C 2 rfl rfl dX1_level_28 ?_
          refine x_get C in_X1_level_X1 0 rfl rfl 7 (by decide) (List.mem_of_getElem? (i := 3) rfl) rfl (v := .ref (a 5)) rfl dX1_level_29 ?_
          refine x_iload_n C 0 rfl rfl dX1_level_32 ?_
          refine x_iaload C (f := Ct.po C0) 5 rfl (by omega) rfl dX1_level_33 ?_
          have b7 := WFc.po hW ((w : Int))
          refine x_isub C dX1_level_34 ?_
          refine x_goto C 46 (by decide) dX1_level_35 ?_
          exact LP46 _ (by omega)
  exact LP9 (((Ct.n C0).toNat - (0)) + 1) (0) _ _ (by omega) (by omega) (by omega) (by simp only [psm]; omega)
end HCT
