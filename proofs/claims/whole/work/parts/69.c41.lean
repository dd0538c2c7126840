set_option maxRecDepth 100000 in
set_option maxHeartbeats 1000000 in
theorem lw_c41 {X : CX} (C : Cx X cL_law 8 RL wsL_law room_1) (hz : ZG X.A X.s) (hst : X.l.stackTraces = false) {q0 L : Nat} {xs : Nat → Int32} (hX : SCR X q0 L xs) {t : Nat} (ht : t + 6 ≤ L) {k n : Nat} (hk : k + 1 ≤ 601024) (hn : n + 6 ≤ 7293034) {b a : Nat → Nat} {o : Nat} {w : va_W} (hI : LI X.γ b a o w) (kk : ∀ w9 : va_W, LI X.γ b a o w9 → Wx X (k + 1) (n + 6) w9 1813 [(4, .int (iN ((t : Nat) : Int))), (3, .ref o), (2, .ref (a 0)), (1, .ref (b 0)), (0, .ref q0)] []) : Wx X k n w 1623 [(4, .int (iN ((t : Nat) : Int))), (3, .ref o), (2, .ref (a 0)), (1, .ref (b 0)), (0, .ref q0)] [] := by
  obtain ⟨F, N, M, P, hp, sd, mhw, mkk, mkf, mrs, mrm, mrw, mth, Q, wb, g, rfl, hWk, hI⟩ := hI
  obtain ⟨mgr, mwa, mre, mpl, mib, msn, mpn, mlo, mtl, mke, mp0, mtk, mki, mun, msd, mbe, rfl⟩ := hWk
  have hNI := hI.1
  have hSh := hI.2.2.2.2
  have hh : ¬ (0 ≤ (sv xs (t + 1)) ∧ (sv xs (t + 1)) ≤ 7) ∨ (mhw (sv xs (t + 1)) = Sh.hd (F (sv xs (t + 1)).toNat) ∧ mrs (sv xs (t + 1)) = Sh.so (F (sv xs (t + 1)).toNat) ∧ mrm (sv xs (t + 1)) = Sh.sz (F (sv xs (t + 1)).toNat)) := by
    by_cases q : 0 ≤ (sv xs (t + 1)) ∧ (sv xs (t + 1)) ≤ 7
    · exact Or.inr (hSh.2.2 (sv xs (t + 1)) q.1 q.2).1
    · exact Or.inl q
  refine x_aload_n C 3 (i := 1) rfl rfl dL_law_1623 ?_
  refine x_arg C hX 0 4 rfl rfl 1 rfl (by omega) dL_law_1624 dL_law_1625 dL_law_1627 dL_law_1628 dL_law_1629 ?_
  refine x_arg C hX 0 4 rfl rfl 2 rfl (by omega) dL_law_1630 dL_law_1631 dL_law_1633 dL_law_1634 dL_law_1635 ?_
  refine x_aload_n C 1 (i := 3) rfl rfl dL_law_1636 ?_
  refine Wx.subW (ws' := [] ++ ([] ++ WX X.γ b F N M P hp sd ++ [(o, aJ X.γ 1 g)]) ++ (WM X.γ a (Ct.h N) (Ct.n N) (Ct.kd N) (Ct.fg N) (Ct.ag N) (Ct.po N) (Ct.wy N) (Ct.dy N) mhw mkk mkf mrs mrm mrw mth 0 mgr mwa mre mpl mib msn mpn mlo mtl mke (PCQ Q) hp mp0 mtk mki mun msd mbe)) [0, 1, 2, 3, 4, 5, 6, 7, 8, 9, 10, 11, 12, 13, 14, 15, 16, 17, 18, 19, 20, 21, 22, 23, 24, 25, 26, 27, 28, 29, 30, 31, 32, 33, 34, 35, 36, 37, 38, 39, 40, 41, 42, 43, 44, 45, 46, 47, 48, 49, 50, 51, 52, 53, 54, 55, 56, 57, 58, 59, 82, 60, 61, 62, 63, 64, 65, 66, 67, 68, 69, 70, 71, 72, 73, 74, 75, 76, 77, 78, 79, 80, 81] (by decide +kernel) rfl ?_
  refine x_S_Iz C hz (As := [.ref (b 0), .int (iN (sv xs (t + 1))), .int (iN (sv xs (t + 2))), .ref o]) (rest := []) 4 gL_law_L_element ((c_L_element _ hst _ b F N M P hp sd hI.1.1 hI.2.2.2.2.1 o g (sv xs (t + 1)) (sv xs (t + 2)) (sv_b xs (t + 1)) (sv_b xs (t + 2))).app [] (WM X.γ a (Ct.h N) (Ct.n N) (Ct.kd N) (Ct.fg N) (Ct.ag N) (Ct.po N) (Ct.wy N) (Ct.dy N) mhw mkk mkf mrs mrm mrw mth 0 mgr mwa mre mpl mib msn mpn mlo mtl mke (PCQ Q) hp mp0 mtk mki mun msd mbe)) rfl ok_L_element (roomOk_k rfl (show k + 1 ≤ 601024 by omega) (show n + 6 ≤ 7293034 by omega)) rfl rfl rfl dL_law_1637 (fun r1 v1 hv1 => ?_)
  obtain ⟨w1, hq1, rfl⟩ := hv1
  rcases hq1 with ⟨cc1, e1, rfl⟩ | ⟨cc1, e1, rfl⟩
  · refine Wx.subW (ws' := WX X.γ b F N M P hp sd ++ WM X.γ a (Ct.h N) (Ct.n N) (Ct.kd N) (Ct.fg N) (Ct.ag N) (Ct.po N) (Ct.wy N) (Ct.dy N) mhw mkk mkf mrs mrm mrw mth 0 mgr mwa mre mpl mib msn mpn mlo mtl mke (PCQ Q) hp mp0 mtk mki mun msd mbe ++ [(o, aJ X.γ 1 (upz g 0 (Sh.va (F (sv xs (t + 1)).toNat) (sv xs (t + 2)))))]) [0, 1, 2, 3, 4, 5, 6, 7, 8, 9, 10, 11, 12, 13, 14, 15, 16, 17, 18, 19, 20, 21, 22, 23, 24, 25, 26, 27, 28, 29, 30, 31, 32, 33, 34, 35, 36, 37, 38, 39, 40, 41, 42, 43, 44, 45, 46, 47, 48, 49, 50, 51, 52, 53, 54, 55, 56, 57, 58, 59, 61, 62, 63, 64, 65, 66, 67, 68, 69, 70, 71, 72, 73, 74, 75, 76, 77, 78, 79, 80, 81, 82, 60] (by decide +kernel) rfl ?_
    refine x_istore C [(5, .int (iN r1)), (4, .int (iN ((t : Nat) : Int))), (3, .ref o), (2, .ref (a 0)), (1, .ref (b 0)), (0, .ref q0)] (by decide) rfl dL_law_1640 ?_
    refine x_aload_n C 3 (i := 2) rfl rfl dL_law_1642 ?_
    refine x_arg C hX 1 5 rfl rfl 1 rfl (by omega) dL_law_1643 dL_law_1644 dL_law_1646 dL_law_1647 dL_law_1648 ?_
    refine x_arg C hX 1 5 rfl rfl 2 rfl (by omega) dL_law_1649 dL_law_1650 dL_law_1652 dL_law_1653 dL_law_1654 ?_
    refine x_V_J C (As := [.int (iN (sv xs (t + 1))), .int (iN (sv xs (t + 2)))]) (rest := []) 2 60 rfl rfl gL_law_X12_element rfl ((c_X12_element _ _ a (Ct.h N) (Ct.n N) (Ct.kd N) (Ct.fg N) (Ct.ag N) (Ct.po N) (Ct.wy N) (Ct.dy N) mhw mkk mkf mrs mrm mrw mth mgr mwa mre mpl mib msn mpn mlo mtl mke (PCQ Q) hp mp0 mtk mki mun msd mbe (INV.m hI) (sv xs (t + 1)) (sv xs (t + 2)) (sv_b xs (t + 1)) (sv_b xs (t + 2))).app (WX X.γ b F N M P hp sd) [(o, aJ X.γ 1 (upz g 0 (Sh.va (F (sv xs (t + 1)).toNat) (sv xs (t + 2)))))]) rfl ok_X12_element (roomOk_k rfl (show k + 1 + 0 ≤ 601024 by omega) (show n + 6 + 0 ≤ 7293034 by omega)) rfl rfl rfl dL_law_1655 (fun r2 v2 hv2 => ?_)
    obtain ⟨w2, ⟨e2, hW2⟩, rfl⟩ := hv2
    refine x_lstore C [(6, .long (jN r2)), (5, .int (iN r1)), (4, .int (iN ((t : Nat) : Int))), (3, .ref o), (2, .ref (a 0)), (1, .ref (b 0)), (0, .ref q0)] (by decide) rfl dL_law_1658 ?_
    obtain ⟨mgr3, mwa3, mre3, mpl3, mib3, msn3, mpn3, mlo3, mtl3, mke3, mp03, mtk3, mki3, mun3, msd3, mbe3, rfl⟩ := hW2
    refine x_aload_n C 4 (i := 2) rfl rfl dL_law_1660 ?_
    refine x_V_I C (As := []) (rest := []) 0 60 rfl rfl gL_law_X12_thrown rfl ((c_X12_thrown _ _ a (Ct.h N) (Ct.n N) (Ct.kd N) (Ct.fg N) (Ct.ag N) (Ct.po N) (Ct.wy N) (Ct.dy N) mhw mkk mkf mrs mrm mrw (if 0 ≤ (sv xs (t + 1)) ∧ (sv xs (t + 1)) ≤ 7 then (if mhw (sv xs (t + 1)) = 2 ∧ 0 ≤ (sv xs (t + 2)) ∧ (sv xs (t + 2)) ≤ mrm (sv xs (t + 1)) - 1 then 0 else 2) else 1) 0 mgr3 mwa3 mre3 mpl3 mib3 msn3 mpn3 mlo3 mtl3 mke3 (PCQ Q) hp mp03 mtk3 mki3 mun3 msd3 mbe3).app (WX X.γ b F N M P hp sd) [(o, aJ X.γ 1 (upz g 0 (Sh.va (F (sv xs (t + 1)).toNat) (sv xs (t + 2)))))]) rfl ok_X12_thrown (roomOk_k rfl (show k + 1 + 0 + 0 ≤ 601024 by omega) (show n + 6 + 0 + 0 ≤ 7293034 by omega)) rfl rfl rfl dL_law_1661 (fun r3 v3 hv3 => ?_)
    obtain ⟨w3, ⟨e3, rfl⟩, rfl⟩ := hv3
    refine x_iload C 1 rfl dL_law_1664 ?_
    refine x_eqS C (e3.trans (Eq.trans (by rw [if_pos cc1.1, if_pos (show mhw (sv xs (t + 1)) = 2 ∧ 0 ≤ (sv xs (t + 2)) ∧ (sv xs (t + 2)) ≤ mrm (sv xs (t + 1)) - 1 by omega)]) e1.symm)) 1671 (by decide) dL_law_1666 ?_
    refine x_iload C 1 rfl dL_law_1671 ?_
    refine x_if_ne C 1687 (by decide) (by omega) dL_law_1673 (fun q => absurd e1 q) (fun _ => ?_)
    refine x_aload_n C 3 (i := 3) rfl rfl dL_law_1676 ?_
    refine x_iconst (v := 0) C dL_law_1677 ?_
    refine x_laload C (f := (upz g 0 (Sh.va (F (sv xs (t + 1)).toNat) (sv xs (t + 2))))) 82 rfl (by omega) rfl dL_law_1678 ?_
    refine x_lload C 0 rfl dL_law_1679 ?_
    have hv : mrw (100 * (sv xs (t + 1)) + (sv xs (t + 2))) = Sh.va (F (sv xs (t + 1)).toNat) (sv xs (t + 2)) := (hSh.2.2 (sv xs (t + 1)) cc1.1.1 cc1.1.2).2.2 (sv xs (t + 2)) cc1.2.2.1 (by have := (hSh.1 (sv xs (t + 1)).toNat (by omega)).sz; omega)
    have hq : r2 = Sh.va (F (sv xs (t + 1)).toNat) (sv xs (t + 2)) := by
      rw [e2, if_pos cc1.1, if_pos (show mhw (sv xs (t + 1)) = 2 ∧ 0 ≤ (sv xs (t + 2)) ∧ (sv xs (t + 2)) ≤ mrm (sv xs (t + 1)) - 1 by omega), if_pos rfl, hv]
    refine x_lcmpS C (Eq.trans (upz_s g 0 (Sh.va (F (sv xs (t + 1)).toNat) (sv xs (t + 2)))) hq.symm) 1687 (by decide) dL_law_1681 dL_law_1682 ?_
    refine x_goto C 1813 (by decide) dL_law_1687 ?_
    refine Wx.subL (L' := [(4, .int (iN ((t : Nat) : Int))), (3, .ref o), (2, .ref (a 0)), (1, .ref (b 0)), (0, .ref q0)]) [2, 3, 4, 5, 6] rfl ?_
    refine Wx.widen (k' := k + 1) (n' := n + 6) (by omega) (by omega) ?_
    exact kk _ ⟨F, N, M, P, hp, sd, mhw, mkk, mkf, mrs, mrm, mrw, _, Q, _, (upz g 0 (Sh.va (F (sv xs (t + 1)).toNat) (sv xs (t + 2)))), rfl, ⟨_, _, _, _, _, _, _, _, _, _, _, _, _, _, _, _, rfl⟩, hI⟩
  · refine Wx.subW (ws' := WX X.γ b F N M P hp sd ++ WM X.γ a (Ct.h N) (Ct.n N) (Ct.kd N) (Ct.fg N) (Ct.ag N) (Ct.po N) (Ct.wy N) (Ct.dy N) mhw mkk mkf mrs mrm mrw mth 0 mgr mwa mre mpl mib msn mpn mlo mtl mke (PCQ Q) hp mp0 mtk mki mun msd mbe ++ [(o, aJ X.γ 1 g)]) [0, 1, 2, 3, 4, 5, 6, 7, 8, 9, 10, 11, 12, 13, 14, 15, 16, 17, 18, 19, 20, 21, 22, 23, 24, 25, 26, 27, 28, 29, 30, 31, 32, 33, 34, 35, 36, 37, 38, 39, 40, 41, 42, 43, 44, 45, 46, 47, 48, 49, 50, 51, 52, 53, 54, 55, 56, 57, 58, 59, 61, 62, 63, 64, 65, 66, 67, 68, 69, 70, 71, 72, 73, 74, 75, 76, 77, 78, 79, 80, 81, 82, 60] (by decide +kernel) rfl ?_
    refine x_istore C [(5, .int (iN r1)), (4, .int (iN ((t : Nat) : Int))), (3, .ref o), (2, .ref (a 0)), (1, .ref (b 0)), (0, .ref q0)] (by decide) rfl dL_law_1640 ?_
    refine x_aload_n C 3 (i := 2) rfl rfl dL_law_1642 ?_
    refine x_arg C hX 1 5 rfl rfl 1 rfl (by omega) dL_law_1643 dL_law_1644 dL_law_1646 dL_law_1647 dL_law_1648 ?_
    refine x_arg C hX 1 5 rfl rfl 2 rfl (by omega) dL_law_1649 dL_law_1650 dL_law_1652 dL_law_1653 dL_law_1654 ?_
    refine x_V_J C (As := [.int (iN (sv xs (t + 1))), .int (iN (sv xs (t + 2)))]) (rest := []) 2 60 rfl rfl gL_law_X12_element rfl ((c_X12_element _ _ a (Ct.h N) (Ct.n N) (Ct.kd N) (Ct.fg N) (Ct.ag N) (Ct.po N) (Ct.wy N) (Ct.dy N) mhw mkk mkf mrs mrm mrw mth mgr mwa mre mpl mib msn mpn mlo mtl mke (PCQ Q) hp mp0 mtk mki mun msd mbe (INV.m hI) (sv xs (t + 1)) (sv xs (t + 2)) (sv_b xs (t + 1)) (sv_b xs (t + 2))).app (WX X.γ b F N M P hp sd) [(o, aJ X.γ 1 g)]) rfl ok_X12_element (roomOk_k rfl (show k + 1 + 0 ≤ 601024 by omega) (show n + 6 + 0 ≤ 7293034 by omega)) rfl rfl rfl dL_law_1655 (fun r2 v2 hv2 => ?_)
    obtain ⟨w2, ⟨e2, hW2⟩, rfl⟩ := hv2
    refine x_lstore C [(6, .long (jN r2)), (5, .int (iN r1)), (4, .int (iN ((t : Nat) : Int))), (3, .ref o), (2, .ref (a 0)), (1, .ref (b 0)), (0, .ref q0)] (by decide) rfl dL_law_1658 ?_
    obtain ⟨mgr3, mwa3, mre3, mpl3, mib3, msn3, mpn3, mlo3, mtl3, mke3, mp03, mtk3, mki3, mun3, msd3, mbe3, rfl⟩ := hW2
    refine x_aload_n C 4 (i := 2) rfl rfl dL_law_1660 ?_
    refine x_V_I C (As := []) (rest := []) 0 60 rfl rfl gL_law_X12_thrown rfl ((c_X12_thrown _ _ a (Ct.h N) (Ct.n N) (Ct.kd N) (Ct.fg N) (Ct.ag N) (Ct.po N) (Ct.wy N) (Ct.dy N) mhw mkk mkf mrs mrm mrw (if 0 ≤ (sv xs (t + 1)) ∧ (sv xs (t + 1)) ≤ 7 then (if mhw (sv xs (t + 1)) = 2 ∧ 0 ≤ (sv xs (t + 2)) ∧ (sv xs (t + 2)) ≤ mrm (sv xs (t + 1)) - 1 then 0 else 2) else 1) 0 mgr3 mwa3 mre3 mpl3 mib3 msn3 mpn3 mlo3 mtl3 mke3 (PCQ Q) hp mp03 mtk3 mki3 mun3 msd3 mbe3).app (WX X.γ b F N M P hp sd) [(o, aJ X.γ 1 g)]) rfl ok_X12_thrown (roomOk_k rfl (show k + 1 + 0 + 0 ≤ 601024 by omega) (show n + 6 + 0 + 0 ≤ 7293034 by omega)) rfl rfl rfl dL_law_1661 (fun r3 v3 hv3 => ?_)
    obtain ⟨w3, ⟨e3, rfl⟩, rfl⟩ := hv3
    refine x_iload C 1 rfl dL_law_1664 ?_
    refine x_eqS C (e3.trans (Eq.trans (by by_cases q : 0 ≤ (sv xs (t + 1)) ∧ (sv xs (t + 1)) ≤ 7; (rw [if_pos q, if_pos q, if_neg (show ¬ (mhw (sv xs (t + 1)) = 2 ∧ 0 ≤ (sv xs (t + 2)) ∧ (sv xs (t + 2)) ≤ mrm (sv xs (t + 1)) - 1) by omega)]); (rw [if_neg q, if_neg q])) e1.symm)) 1671 (by decide) dL_law_1666 ?_
    refine x_iload C 1 rfl dL_law_1671 ?_
    refine x_if_ne C 1687 (by decide) (by omega) dL_law_1673 (fun _ => ?_) (fun q => by exfalso; omega)
    refine x_goto C 1813 (by decide) dL_law_1687 ?_
    refine Wx.subL (L' := [(4, .int (iN ((t : Nat) : Int))), (3, .ref o), (2, .ref (a 0)), (1, .ref (b 0)), (0, .ref q0)]) [2, 3, 4, 5, 6] rfl ?_
    refine Wx.widen (k' := k + 1) (n' := n + 6) (by omega) (by omega) ?_
    exact kk _ ⟨F, N, M, P, hp, sd, mhw, mkk, mkf, mrs, mrm, mrw, _, Q, _, g, rfl, ⟨_, _, _, _, _, _, _, _, _, _, _, _, _, _, _, _, rfl⟩, hI⟩
