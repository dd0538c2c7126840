set_option maxRecDepth 100000 in
set_option maxHeartbeats 1000000 in
theorem lw_c40 {X : CX} (C : Cx X cL_law 8 RL wsL_law room_1) (hz : ZG X.A X.s) (hst : X.l.stackTraces = false) {q0 L : Nat} {xs : Nat → Int32} (hX : SCR X q0 L xs) {t : Nat} (ht : t + 6 ≤ L) {k n : Nat} (hk : k + 1 ≤ 601024) (hn : n + 6 ≤ 7293034) {b a : Nat → Nat} {o : Nat} {w : va_W} (hI : LI X.γ b a o w) (kk : ∀ w9 : va_W, LI X.γ b a o w9 → Wx X (k + 1) (n + 6) w9 1813 [(4, .int (iN ((t : Nat) : Int))), (3, .ref o), (2, .ref (a 0)), (1, .ref (b 0)), (0, .ref q0)] []) : Wx X k n w 1574 [(4, .int (iN ((t : Nat) : Int))), (3, .ref o), (2, .ref (a 0)), (1, .ref (b 0)), (0, .ref q0)] [] := by
  obtain ⟨F, N, M, P, hp, sd, mhw, mkk, mkf, mrs, mrm, mrw, mth, Q, wb, g, rfl, hWk, hI⟩ := hI
  obtain ⟨mgr, mwa, mre, mpl, mib, msn, mpn, mlo, mtl, mke, mp0, mtk, mki, mun, msd, mbe, rfl⟩ := hWk
  have hNI := hI.1
  have hSh := hI.2.2.2.2
  obtain ⟨s3, z3, eL, hs⟩ := hNI.2.2
  have hn0 : 0 ≤ Ct.n N := hNI.1.n.1
  have hh : ¬ (0 ≤ (sv xs (t + 1)) ∧ (sv xs (t + 1)) ≤ 7) ∨ (mhw (sv xs (t + 1)) = Sh.hd (F (sv xs (t + 1)).toNat) ∧ mrs (sv xs (t + 1)) = Sh.so (F (sv xs (t + 1)).toNat) ∧ mrm (sv xs (t + 1)) = Sh.sz (F (sv xs (t + 1)).toNat)) := by
    by_cases q : 0 ≤ (sv xs (t + 1)) ∧ (sv xs (t + 1)) ≤ 7
    · exact Or.inr (hSh.2.2 (sv xs (t + 1)) q.1 q.2).1
    · exact Or.inl q
  refine Wx.eqW (wl_eq (WX X.γ b F N M P hp sd) (WM X.γ a (Ct.h N) (Ct.n N) (Ct.kd N) (Ct.fg N) (Ct.ag N) (Ct.po N) (Ct.wy N) (Ct.dy N) mhw mkk mkf mrs mrm mrw mth 0 mgr mwa mre mpl mib msn mpn mlo mtl mke (PCQ Q) hp mp0 mtk mki mun msd mbe) [(o, aJ X.γ 1 g)]).symm ?_
  refine x_aload_n C 3 (i := 1) rfl rfl dL_law_1574 ?_
  refine x_arg C hX 0 4 rfl rfl 1 rfl (by omega) dL_law_1575 dL_law_1576 dL_law_1578 dL_law_1579 dL_law_1580 ?_
  refine x_arg C hX 0 4 rfl rfl 2 rfl (by omega) dL_law_1581 dL_law_1582 dL_law_1584 dL_law_1585 dL_law_1586 ?_
  refine x_arg C hX 0 4 rfl rfl 3 rfl (by omega) dL_law_1587 dL_law_1588 dL_law_1590 dL_law_1591 dL_law_1592 ?_
  refine x_V_I C (As := [.int (iN (sv xs (t + 1))), .int (iN (sv xs (t + 2))), .int (iN (sv xs (t + 3)))]) (rest := []) 3 0 rfl rfl gL_law_X11_put rfl ((c_X11_put _ _ b F N M P hp sd hI.1.1 hI.2.2.2.2.1 (sv xs (t + 1)) (sv xs (t + 2)) (sv xs (t + 3)) (sv_b xs (t + 1)) (sv_b xs (t + 2)) (sv_b xs (t + 3))).app [] (WM X.γ a (Ct.h N) (Ct.n N) (Ct.kd N) (Ct.fg N) (Ct.ag N) (Ct.po N) (Ct.wy N) (Ct.dy N) mhw mkk mkf mrs mrm mrw mth 0 mgr mwa mre mpl mib msn mpn mlo mtl mke (PCQ Q) hp mp0 mtk mki mun msd mbe ++ [(o, aJ X.γ 1 g)])) rfl ok_X11_put (roomOk_k rfl (show k + 0 ≤ 601024 by omega) (show n + 0 ≤ 7293034 by omega)) rfl rfl rfl dL_law_1593 (fun r1 v1 hv1 => ?_)
  obtain ⟨w1, hq1, rfl⟩ := hv1
  rcases hq1 with ⟨cc1, e1, x1, y1, M1, s1, rfl⟩ | ⟨cc1, e1, x1, y1, M1, s1, rfl⟩
  · refine Wx.eqW (wl_eq (WX X.γ b (upF F (sv xs (t + 1)).toNat (Sh.set_va (F (sv xs (t + 1)).toNat) (upz (Sh.va (F (sv xs (t + 1)).toNat)) (sv xs (t + 2)) (nar (Sh.so (F (sv xs (t + 1)).toNat)) (sv xs (t + 3)))))) (Ct.set_wa N x1) M1 (Ct.set_wa P y1) hp s1) (WM X.γ a (Ct.h N) (Ct.n N) (Ct.kd N) (Ct.fg N) (Ct.ag N) (Ct.po N) (Ct.wy N) (Ct.dy N) mhw mkk mkf mrs mrm mrw mth 0 mgr mwa mre mpl mib msn mpn mlo mtl mke (PCQ Q) hp mp0 mtk mki mun msd mbe) [(o, aJ X.γ 1 g)]) ?_
    refine x_aload_n C 2 (i := 2) rfl rfl dL_law_1596 ?_
    refine x_arg C hX 0 4 rfl rfl 1 rfl (by omega) dL_law_1597 dL_law_1598 dL_law_1600 dL_law_1601 dL_law_1602 ?_
    refine x_arg C hX 0 4 rfl rfl 2 rfl (by omega) dL_law_1603 dL_law_1604 dL_law_1606 dL_law_1607 dL_law_1608 ?_
    refine x_arg C hX 0 4 rfl rfl 3 rfl (by omega) dL_law_1609 dL_law_1610 dL_law_1612 dL_law_1613 dL_law_1614 ?_
    refine x_V_I C (As := [.int (iN (sv xs (t + 1))), .int (iN (sv xs (t + 2))), .int (iN (sv xs (t + 3)))]) (rest := [.int (iN r1)]) 3 60 rfl rfl gL_law_X12_put rfl ((c_X12_put _ _ a (Ct.h N) (Ct.n N) (Ct.kd N) (Ct.fg N) (Ct.ag N) (Ct.po N) (Ct.wy N) (Ct.dy N) mhw mkk mkf mrs mrm mrw mth mgr mwa mre mpl mib msn mpn mlo mtl mke (PCQ Q) hp mp0 mtk mki mun msd mbe (INV.m hI) (sv xs (t + 1)) (sv xs (t + 2)) (sv xs (t + 3)) (sv_b xs (t + 1)) (sv_b xs (t + 2)) (sv_b xs (t + 3))).app (WX X.γ b (upF F (sv xs (t + 1)).toNat (Sh.set_va (F (sv xs (t + 1)).toNat) (upz (Sh.va (F (sv xs (t + 1)).toNat)) (sv xs (t + 2)) (nar (Sh.so (F (sv xs (t + 1)).toNat)) (sv xs (t + 3)))))) (Ct.set_wa N x1) M1 (Ct.set_wa P y1) hp s1) [(o, aJ X.γ 1 g)]) rfl ok_X12_put (roomOk_k rfl (show k + 0 + 0 ≤ 601024 by omega) (show n + 0 + 0 ≤ 7293034 by omega)) rfl rfl rfl dL_law_1615 (fun r2 v2 hv2 => ?_)
    obtain ⟨w2, hq2, rfl⟩ := hv2
    rcases hq2 with ⟨cc2, e2, hW2⟩ | ⟨cc2, e2, hW2⟩
    · refine x_eqS C (e1.trans e2.symm) 1813 (by decide) dL_law_1618 ?_
      refine Wx.widen (k' := k + 1) (n' := n + 6) (by omega) (by omega) ?_
      exact kk _ ⟨upF F (sv xs (t + 1)).toNat (Sh.set_va (F (sv xs (t + 1)).toNat) (upz (Sh.va (F (sv xs (t + 1)).toNat)) (sv xs (t + 2)) (nar (Sh.so (F (sv xs (t + 1)).toNat)) (sv xs (t + 3))))), Ct.set_wa N x1, M1, Ct.set_wa P y1, hp, s1, mhw, mkk, mkf, mrs, mrm, upz mrw (100 * (sv xs (t + 1)) + (sv xs (t + 2))) (nar (mrs (sv xs (t + 1))) (sv xs (t + 3))), 0, Q, w2, g, rfl, hW2, INV.f hI (hSh.put cc1.1 cc1.2.2 (sv_b xs (t + 3))) x1 y1⟩
    · exfalso
      omega
  · refine Wx.eqW (wl_eq (WX X.γ b F (Ct.set_wa N x1) M1 (Ct.set_wa P y1) hp s1) (WM X.γ a (Ct.h N) (Ct.n N) (Ct.kd N) (Ct.fg N) (Ct.ag N) (Ct.po N) (Ct.wy N) (Ct.dy N) mhw mkk mkf mrs mrm mrw mth 0 mgr mwa mre mpl mib msn mpn mlo mtl mke (PCQ Q) hp mp0 mtk mki mun msd mbe) [(o, aJ X.γ 1 g)]) ?_
    refine x_aload_n C 2 (i := 2) rfl rfl dL_law_1596 ?_
    refine x_arg C hX 0 4 rfl rfl 1 rfl (by omega) dL_law_1597 dL_law_1598 dL_law_1600 dL_law_1601 dL_law_1602 ?_
    refine x_arg C hX 0 4 rfl rfl 2 rfl (by omega) dL_law_1603 dL_law_1604 dL_law_1606 dL_law_1607 dL_law_1608 ?_
    refine x_arg C hX 0 4 rfl rfl 3 rfl (by omega) dL_law_1609 dL_law_1610 dL_law_1612 dL_law_1613 dL_law_1614 ?_
    refine x_V_I C (As := [.int (iN (sv xs (t + 1))), .int (iN (sv xs (t + 2))), .int (iN (sv xs (t + 3)))]) (rest := [.int (iN r1)]) 3 60 rfl rfl gL_law_X12_put rfl ((c_X12_put _ _ a (Ct.h N) (Ct.n N) (Ct.kd N) (Ct.fg N) (Ct.ag N) (Ct.po N) (Ct.wy N) (Ct.dy N) mhw mkk mkf mrs mrm mrw mth mgr mwa mre mpl mib msn mpn mlo mtl mke (PCQ Q) hp mp0 mtk mki mun msd mbe (INV.m hI) (sv xs (t + 1)) (sv xs (t + 2)) (sv xs (t + 3)) (sv_b xs (t + 1)) (sv_b xs (t + 2)) (sv_b xs (t + 3))).app (WX X.γ b F (Ct.set_wa N x1) M1 (Ct.set_wa P y1) hp s1) [(o, aJ X.γ 1 g)]) rfl ok_X12_put (roomOk_k rfl (show k + 0 + 0 ≤ 601024 by omega) (show n + 0 + 0 ≤ 7293034 by omega)) rfl rfl rfl dL_law_1615 (fun r2 v2 hv2 => ?_)
    obtain ⟨w2, hq2, rfl⟩ := hv2
    rcases hq2 with ⟨cc2, e2, hW2⟩ | ⟨cc2, e2, hW2⟩
    · exfalso
      omega
    · refine x_eqS C (e1.trans (Eq.trans (wr_c (fun h0 h7 => ⟨(hSh.2.2 _ h0 h7).1.1.symm, rfl⟩)) e2.symm)) 1813 (by decide) dL_law_1618 ?_
      refine Wx.widen (k' := k + 1) (n' := n + 6) (by omega) (by omega) ?_
      exact kk _ ⟨F, Ct.set_wa N x1, M1, Ct.set_wa P y1, hp, s1, mhw, mkk, mkf, mrs, mrm, mrw, 0, Q, w2, g, rfl, hW2, INV.ct hI hNI x1 y1⟩
