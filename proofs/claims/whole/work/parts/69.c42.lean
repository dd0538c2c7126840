set_option maxRecDepth 100000 in
set_option maxHeartbeats 1000000 in
theorem lw_c42 {X : CX} (C : Cx X cL_law 8 RL wsL_law room_1) (hz : ZG X.A X.s) (hst : X.l.stackTraces = false) {q0 L : Nat} {xs : Nat → Int32} (hX : SCR X q0 L xs) {t : Nat} (ht : t + 6 ≤ L) {k n : Nat} (hk : k + 1 ≤ 601024) (hn : n + 6 ≤ 7293034) {b a : Nat → Nat} {o : Nat} {w : va_W} (hI : LI X.γ b a o w) (kk : ∀ w9 : va_W, LI X.γ b a o w9 → Wx X (k + 1) (n + 6) w9 1813 [(4, .int (iN ((t : Nat) : Int))), (3, .ref o), (2, .ref (a 0)), (1, .ref (b 0)), (0, .ref q0)] []) : Wx X k n w 1690 [(4, .int (iN ((t : Nat) : Int))), (3, .ref o), (2, .ref (a 0)), (1, .ref (b 0)), (0, .ref q0)] [] := by
  obtain ⟨F, N, M, P, hp, sd, mhw, mkk, mkf, mrs, mrm, mrw, mth, Q, wb, g, rfl, hWk, hI⟩ := hI
  obtain ⟨mgr, mwa, mre, mpl, mib, msn, mpn, mlo, mtl, mke, mp0, mtk, mki, mun, msd, mbe, rfl⟩ := hWk
  have hNI := hI.1
  have hSh := hI.2.2.2.2
  obtain ⟨s3, z3, eL, hs⟩ := hNI.2.2
  have hn0 : 0 ≤ Ct.n N := hNI.1.n.1
  have hh : ¬ (0 ≤ (sv xs (t + 1)) ∧ (sv xs (t + 1)) ≤ 7) ∨ (mhw (sv xs (t + 1)) = Sh.hd (F (sv xs (t + 1)).toNat) ∧ mrs (sv xs (t + 1)) = Sh.so (F (sv xs (t + 1)).toNat) ∧ mrm (sv xs (t + 1)) = Sh.sz (F (sv xs (t + 1)).toNat)) := by
    by_cases q : 0 ≤ (sv xs (t + 1)) ∧ (sv xs (t + 1)) ≤ 7
    · exact Or.inr (hSh.2.2 (sv xs (t + 1)) q.1 q.2).1
    · exact Or.inl q
  have hhe : ¬ (0 ≤ (sv xs (t + 3)) ∧ (sv xs (t + 3)) ≤ 7) ∨ (mhw (sv xs (t + 3)) = Sh.hd (F (sv xs (t + 3)).toNat) ∧ mrs (sv xs (t + 3)) = Sh.so (F (sv xs (t + 3)).toNat) ∧ mrm (sv xs (t + 3)) = Sh.sz (F (sv xs (t + 3)).toNat)) := by
    by_cases q : 0 ≤ (sv xs (t + 3)) ∧ (sv xs (t + 3)) ≤ 7
    · exact Or.inr (hSh.2.2 (sv xs (t + 3)) q.1 q.2).1
    · exact Or.inl q
  refine Wx.eqW (wl_eq (WX X.γ b F N M P hp sd) (WM X.γ a (Ct.h N) (Ct.n N) (Ct.kd N) (Ct.fg N) (Ct.ag N) (Ct.po N) (Ct.wy N) (Ct.dy N) mhw mkk mkf mrs mrm mrw mth 0 mgr mwa mre mpl mib msn mpn mlo mtl mke (PCQ Q) hp mp0 mtk mki mun msd mbe) [(o, aJ X.γ 1 g)]).symm ?_
  refine x_aload_n C 3 (i := 1) rfl rfl dL_law_1690 ?_
  refine x_arg C hX 0 4 rfl rfl 1 rfl (by omega) dL_law_1691 dL_law_1692 dL_law_1694 dL_law_1695 dL_law_1696 ?_
  refine x_arg C hX 0 4 rfl rfl 2 rfl (by omega) dL_law_1697 dL_law_1698 dL_law_1700 dL_law_1701 dL_law_1702 ?_
  refine x_arg C hX 0 4 rfl rfl 3 rfl (by omega) dL_law_1703 dL_law_1704 dL_law_1706 dL_law_1707 dL_law_1708 ?_
  refine x_arg C hX 0 4 rfl rfl 4 rfl (by omega) dL_law_1709 dL_law_1710 dL_law_1712 dL_law_1713 dL_law_1714 ?_
  refine x_arg C hX 0 4 rfl rfl 5 rfl (by omega) dL_law_1715 dL_law_1716 dL_law_1718 dL_law_1719 dL_law_1720 ?_
  refine x_V_I C (As := [.int (iN (sv xs (t + 1))), .int (iN (sv xs (t + 2))), .int (iN (sv xs (t + 3))), .int (iN (sv xs (t + 4))), .int (iN (sv xs (t + 5)))]) (rest := []) 5 0 rfl rfl gL_law_X11_copy rfl ((c_X11_copy _ _ b F N M P hp sd hI.1.1 hI.2.2.2.2.1 (sv xs (t + 1)) (sv xs (t + 2)) (sv xs (t + 3)) (sv xs (t + 4)) (sv xs (t + 5)) (sv_b xs (t + 1)) (sv_b xs (t + 2)) (sv_b xs (t + 3)) (sv_b xs (t + 4)) (sv_b xs (t + 5))).app [] (WM X.γ a (Ct.h N) (Ct.n N) (Ct.kd N) (Ct.fg N) (Ct.ag N) (Ct.po N) (Ct.wy N) (Ct.dy N) mhw mkk mkf mrs mrm mrw mth 0 mgr mwa mre mpl mib msn mpn mlo mtl mke (PCQ Q) hp mp0 mtk mki mun msd mbe ++ [(o, aJ X.γ 1 g)])) rfl ok_X11_copy (roomOk_k rfl (show k + 0 ≤ 601024 by omega) (show n + 0 ≤ 7293034 by omega)) rfl rfl rfl dL_law_1721 (fun r1 v1 hv1 => ?_)
  obtain ⟨w1, hq1, rfl⟩ := hv1
  rcases hq1 with ⟨cc1, e1, x1, y1, M1, s1, rfl⟩ | ⟨cc1, e1, x1, y1, M1, s1, rfl⟩
  · refine Wx.eqW (wl_eq (WX X.γ b (upF F (sv xs (t + 3)).toNat (Sh.set_va (F (sv xs (t + 3)).toNat) (cpz (Sh.va (F (sv xs (t + 1)).toNat)) (Sh.va (F (sv xs (t + 3)).toNat)) (sv xs (t + 2)) (sv xs (t + 4)) (sv xs (t + 5))))) (Ct.set_wa N x1) M1 (Ct.set_wa P y1) hp s1) (WM X.γ a (Ct.h N) (Ct.n N) (Ct.kd N) (Ct.fg N) (Ct.ag N) (Ct.po N) (Ct.wy N) (Ct.dy N) mhw mkk mkf mrs mrm mrw mth 0 mgr mwa mre mpl mib msn mpn mlo mtl mke (PCQ Q) hp mp0 mtk mki mun msd mbe) [(o, aJ X.γ 1 g)]) ?_
    refine x_aload_n C 2 (i := 2) rfl rfl dL_law_1724 ?_
    refine x_arg C hX 0 4 rfl rfl 1 rfl (by omega) dL_law_1725 dL_law_1726 dL_law_1728 dL_law_1729 dL_law_1730 ?_
    refine x_arg C hX 0 4 rfl rfl 2 rfl (by omega) dL_law_1731 dL_law_1732 dL_law_1734 dL_law_1735 dL_law_1736 ?_
    refine x_arg C hX 0 4 rfl rfl 3 rfl (by omega) dL_law_1737 dL_law_1738 dL_law_1740 dL_law_1741 dL_law_1742 ?_
    refine x_arg C hX 0 4 rfl rfl 4 rfl (by omega) dL_law_1743 dL_law_1744 dL_law_1746 dL_law_1747 dL_law_1748 ?_
    refine x_arg C hX 0 4 rfl rfl 5 rfl (by omega) dL_law_1749 dL_law_1750 dL_law_1752 dL_law_1753 dL_law_1754 ?_
    refine x_V_I C (As := [.int (iN (sv xs (t + 1))), .int (iN (sv xs (t + 2))), .int (iN (sv xs (t + 3))), .int (iN (sv xs (t + 4))), .int (iN (sv xs (t + 5)))]) (rest := [.int (iN r1)]) 5 60 rfl rfl gL_law_X12_copy rfl ((c_X12_copy _ _ a (Ct.h N) (Ct.n N) (Ct.kd N) (Ct.fg N) (Ct.ag N) (Ct.po N) (Ct.wy N) (Ct.dy N) mhw mkk mkf mrs mrm mrw mth mgr mwa mre mpl mib msn mpn mlo mtl mke (PCQ Q) hp mp0 mtk mki mun msd mbe (INV.m hI) (sv xs (t + 1)) (sv xs (t + 2)) (sv xs (t + 3)) (sv xs (t + 4)) (sv xs (t + 5)) (sv_b xs (t + 1)) (sv_b xs (t + 2)) (sv_b xs (t + 3)) (sv_b xs (t + 4)) (sv_b xs (t + 5))).app (WX X.γ b (upF F (sv xs (t + 3)).toNat (Sh.set_va (F (sv xs (t + 3)).toNat) (cpz (Sh.va (F (sv xs (t + 1)).toNat)) (Sh.va (F (sv xs (t + 3)).toNat)) (sv xs (t + 2)) (sv xs (t + 4)) (sv xs (t + 5))))) (Ct.set_wa N x1) M1 (Ct.set_wa P y1) hp s1) [(o, aJ X.γ 1 g)]) rfl ok_X12_copy (roomOk_k rfl (show k + 0 + 0 ≤ 601024 by omega) (show n + 0 + 0 ≤ 7293034 by omega)) rfl rfl rfl dL_law_1755 (fun r2 v2 hv2 => ?_)
    obtain ⟨w2, hq2, rfl⟩ := hv2
    rcases hq2 with ⟨cc2, e2, hW2⟩ | ⟨cc2, e2, hW2⟩
    · refine x_eqS C (e1.trans e2.symm) 1813 (by decide) dL_law_1758 ?_
      refine Wx.widen (k' := k + 1) (n' := n + 6) (by omega) (by omega) ?_
      exact kk _ ⟨upF F (sv xs (t + 3)).toNat (Sh.set_va (F (sv xs (t + 3)).toNat) (cpz (Sh.va (F (sv xs (t + 1)).toNat)) (Sh.va (F (sv xs (t + 3)).toNat)) (sv xs (t + 2)) (sv xs (t + 4)) (sv xs (t + 5)))), Ct.set_wa N x1, M1, Ct.set_wa P y1, hp, s1, mhw, mkk, mkf, mrs, mrm, cpz mrw mrw (100 * (sv xs (t + 1)) + (sv xs (t + 2))) (100 * (sv xs (t + 3)) + (sv xs (t + 4))) (sv xs (t + 5)), 0, Q, w2, g, rfl, hW2, INV.f hI (hSh.copy cc1.1.1 cc1.1.2 cc1.2.2.1 cc1.2.2.2.1 cc1.2.2.2.2) x1 y1⟩
    · exfalso
      omega
  · refine Wx.eqW (wl_eq (WX X.γ b F (Ct.set_wa N x1) M1 (Ct.set_wa P y1) hp s1) (WM X.γ a (Ct.h N) (Ct.n N) (Ct.kd N) (Ct.fg N) (Ct.ag N) (Ct.po N) (Ct.wy N) (Ct.dy N) mhw mkk mkf mrs mrm mrw mth 0 mgr mwa mre mpl mib msn mpn mlo mtl mke (PCQ Q) hp mp0 mtk mki mun msd mbe) [(o, aJ X.γ 1 g)]) ?_
    refine x_aload_n C 2 (i := 2) rfl rfl dL_law_1724 ?_
    refine x_arg C hX 0 4 rfl rfl 1 rfl (by omega) dL_law_1725 dL_law_1726 dL_law_1728 dL_law_1729 dL_law_1730 ?_
    refine x_arg C hX 0 4 rfl rfl 2 rfl (by omega) dL_law_1731 dL_law_1732 dL_law_1734 dL_law_1735 dL_law_1736 ?_
    refine x_arg C hX 0 4 rfl rfl 3 rfl (by omega) dL_law_1737 dL_law_1738 dL_law_1740 dL_law_1741 dL_law_1742 ?_
    refine x_arg C hX 0 4 rfl rfl 4 rfl (by omega) dL_law_1743 dL_law_1744 dL_law_1746 dL_law_1747 dL_law_1748 ?_
    refine x_arg C hX 0 4 rfl rfl 5 rfl (by omega) dL_law_1749 dL_law_1750 dL_law_1752 dL_law_1753 dL_law_1754 ?_
    refine x_V_I C (As := [.int (iN (sv xs (t + 1))), .int (iN (sv xs (t + 2))), .int (iN (sv xs (t + 3))), .int (iN (sv xs (t + 4))), .int (iN (sv xs (t + 5)))]) (rest := [.int (iN r1)]) 5 60 rfl rfl gL_law_X12_copy rfl ((c_X12_copy _ _ a (Ct.h N) (Ct.n N) (Ct.kd N) (Ct.fg N) (Ct.ag N) (Ct.po N) (Ct.wy N) (Ct.dy N) mhw mkk mkf mrs mrm mrw mth mgr mwa mre mpl mib msn mpn mlo mtl mke (PCQ Q) hp mp0 mtk mki mun msd mbe (INV.m hI) (sv xs (t + 1)) (sv xs (t + 2)) (sv xs (t + 3)) (sv xs (t + 4)) (sv xs (t + 5)) (sv_b xs (t + 1)) (sv_b xs (t + 2)) (sv_b xs (t + 3)) (sv_b xs (t + 4)) (sv_b xs (t + 5))).app (WX X.γ b F (Ct.set_wa N x1) M1 (Ct.set_wa P y1) hp s1) [(o, aJ X.γ 1 g)]) rfl ok_X12_copy (roomOk_k rfl (show k + 0 + 0 ≤ 601024 by omega) (show n + 0 + 0 ≤ 7293034 by omega)) rfl rfl rfl dL_law_1755 (fun r2 v2 hv2 => ?_)
    obtain ⟨w2, hq2, rfl⟩ := hv2
    rcases hq2 with ⟨cc2, e2, hW2⟩ | ⟨cc2, e2, hW2⟩
    · exfalso
      omega
    · refine x_eqS C (e1.trans (Eq.trans (by by_cases q : (0 ≤ (sv xs (t + 1)) ∧ (sv xs (t + 1)) ≤ 7) ∧ 0 ≤ (sv xs (t + 3)) ∧ (sv xs (t + 3)) ≤ 7; (obtain ⟨⟨a1, a2, -⟩, -, -⟩ := hSh.2.2 (sv xs (t + 1)) q.1.1 q.1.2; obtain ⟨⟨b1, b2, -⟩, -, -⟩ := hSh.2.2 (sv xs (t + 3)) q.2.1 q.2.2; rw [if_pos q, if_pos q, a1, a2, b1, b2]); (rw [if_neg q, if_neg q])) e2.symm)) 1813 (by decide) dL_law_1758 ?_
      refine Wx.widen (k' := k + 1) (n' := n + 6) (by omega) (by omega) ?_
      exact kk _ ⟨F, Ct.set_wa N x1, M1, Ct.set_wa P y1, hp, s1, mhw, mkk, mkf, mrs, mrm, mrw, 0, Q, w2, g, rfl, hW2, INV.ct hI hNI x1 y1⟩
