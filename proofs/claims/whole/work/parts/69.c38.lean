set_option maxRecDepth 100000 in
set_option maxHeartbeats 1000000 in
theorem lw_c38 {X : CX} (C : Cx X cL_law 8 RL wsL_law room_1) (hz : ZG X.A X.s) (hst : X.l.stackTraces = false) {q0 L : Nat} {xs : Nat → Int32} (hX : SCR X q0 L xs) {t : Nat} (ht : t + 6 ≤ L) {k n : Nat} (hk : k + 1 ≤ 601024) (hn : n + 6 ≤ 7293034) {b a : Nat → Nat} {o : Nat} {w : va_W} (hI : LI X.γ b a o w) (kk : ∀ w9 : va_W, LI X.γ b a o w9 → Wx X (k + 1) (n + 6) w9 1813 [(4, .int (iN ((t : Nat) : Int))), (3, .ref o), (2, .ref (a 0)), (1, .ref (b 0)), (0, .ref q0)] []) : Wx X k n w 1464 [(4, .int (iN ((t : Nat) : Int))), (3, .ref o), (2, .ref (a 0)), (1, .ref (b 0)), (0, .ref q0)] [] := by
  obtain ⟨F, N, M, P, hp, sd, mhw, mkk, mkf, mrs, mrm, mrw, mth, Q, wb, g, rfl, hWk, hI⟩ := hI
  obtain ⟨mgr, mwa, mre, mpl, mib, msn, mpn, mlo, mtl, mke, mp0, mtk, mki, mun, msd, mbe, rfl⟩ := hWk
  have hNI := hI.1
  have hSh := hI.2.2.2.2
  obtain ⟨s3, z3, eL, hs⟩ := hNI.2.2
  have hn0 : 0 ≤ Ct.n N := hNI.1.n.1
  refine Wx.eqW (wl_eq (WX X.γ b F N M P hp sd) (WM X.γ a (Ct.h N) (Ct.n N) (Ct.kd N) (Ct.fg N) (Ct.ag N) (Ct.po N) (Ct.wy N) (Ct.dy N) mhw mkk mkf mrs mrm mrw mth 0 mgr mwa mre mpl mib msn mpn mlo mtl mke (PCQ Q) hp mp0 mtk mki mun msd mbe) [(o, aJ X.γ 1 g)]).symm ?_
  refine x_aload_n C 3 (i := 1) rfl rfl dL_law_1464 ?_
  refine x_arg C hX 0 4 rfl rfl 1 rfl (by omega) dL_law_1465 dL_law_1466 dL_law_1468 dL_law_1469 dL_law_1470 ?_
  refine x_arg C hX 0 4 rfl rfl 2 rfl (by omega) dL_law_1471 dL_law_1472 dL_law_1474 dL_law_1475 dL_law_1476 ?_
  refine x_arg C hX 0 4 rfl rfl 3 rfl (by omega) dL_law_1477 dL_law_1478 dL_law_1480 dL_law_1481 dL_law_1482 ?_
  refine x_arg C hX 0 4 rfl rfl 4 rfl (by omega) dL_law_1483 dL_law_1484 dL_law_1486 dL_law_1487 dL_law_1488 ?_
  refine x_V_I C (As := [.int (iN (sv xs (t + 1))), .int (iN (sv xs (t + 2))), .int (iN (sv xs (t + 3))), .int (iN (sv xs (t + 4)))]) (rest := []) 4 0 rfl rfl gL_law_X11_keep rfl ((c_X11_keep _ _ b F N M P hp sd hI.1.1 hI.2.2.2.2.1 (sv xs (t + 1)) (sv xs (t + 2)) (sv xs (t + 3)) (sv xs (t + 4)) (sv_b xs (t + 1)) (sv_b xs (t + 2)) (sv_b xs (t + 3)) (sv_b xs (t + 4))).app [] (WM X.γ a (Ct.h N) (Ct.n N) (Ct.kd N) (Ct.fg N) (Ct.ag N) (Ct.po N) (Ct.wy N) (Ct.dy N) mhw mkk mkf mrs mrm mrw mth 0 mgr mwa mre mpl mib msn mpn mlo mtl mke (PCQ Q) hp mp0 mtk mki mun msd mbe ++ [(o, aJ X.γ 1 g)])) rfl ok_X11_keep (roomOk_k rfl (show k + 0 ≤ 601024 by omega) (show n + 0 ≤ 7293034 by omega)) rfl rfl rfl dL_law_1489 (fun r1 v1 hv1 => ?_)
  obtain ⟨w1, hq1, rfl⟩ := hv1
  rcases hq1 with ⟨cc1, e1, x1, y1, M1, s1, rfl⟩ | ⟨cc1, e1, x1, y1, M1, s1, rfl⟩
  · refine Wx.eqW (wl_eq (WX X.γ b (upF F (sv xs (t + 1)).toNat (if (sv xs (t + 2)) = 1 then Sh.set_fg (Sh.set_kd (Sh.set_hd (F (sv xs (t + 1)).toNat) 1) (sv xs (t + 3))) (sv xs (t + 4)) else Sh.set_hd (F (sv xs (t + 1)).toNat) 0)) (Ct.set_wa N x1) M1 (Ct.set_wa P y1) hp s1) (WM X.γ a (Ct.h N) (Ct.n N) (Ct.kd N) (Ct.fg N) (Ct.ag N) (Ct.po N) (Ct.wy N) (Ct.dy N) mhw mkk mkf mrs mrm mrw mth 0 mgr mwa mre mpl mib msn mpn mlo mtl mke (PCQ Q) hp mp0 mtk mki mun msd mbe) [(o, aJ X.γ 1 g)]) ?_
    refine x_aload_n C 2 (i := 2) rfl rfl dL_law_1492 ?_
    refine x_arg C hX 0 4 rfl rfl 1 rfl (by omega) dL_law_1493 dL_law_1494 dL_law_1496 dL_law_1497 dL_law_1498 ?_
    refine x_arg C hX 0 4 rfl rfl 2 rfl (by omega) dL_law_1499 dL_law_1500 dL_law_1502 dL_law_1503 dL_law_1504 ?_
    refine x_arg C hX 0 4 rfl rfl 3 rfl (by omega) dL_law_1505 dL_law_1506 dL_law_1508 dL_law_1509 dL_law_1510 ?_
    refine x_arg C hX 0 4 rfl rfl 4 rfl (by omega) dL_law_1511 dL_law_1512 dL_law_1514 dL_law_1515 dL_law_1516 ?_
    refine x_V_I C (As := [.int (iN (sv xs (t + 1))), .int (iN (sv xs (t + 2))), .int (iN (sv xs (t + 3))), .int (iN (sv xs (t + 4)))]) (rest := [.int (iN r1)]) 4 60 rfl rfl gL_law_X12_keep rfl ((c_X12_keep _ _ a (Ct.h N) (Ct.n N) (Ct.kd N) (Ct.fg N) (Ct.ag N) (Ct.po N) (Ct.wy N) (Ct.dy N) mhw mkk mkf mrs mrm mrw mth mgr mwa mre mpl mib msn mpn mlo mtl mke (PCQ Q) hp mp0 mtk mki mun msd mbe (INV.m hI) (sv xs (t + 1)) (sv xs (t + 2)) (sv xs (t + 3)) (sv xs (t + 4)) (sv_b xs (t + 1)) (sv_b xs (t + 2)) (sv_b xs (t + 3)) (sv_b xs (t + 4))).app (WX X.γ b (upF F (sv xs (t + 1)).toNat (if (sv xs (t + 2)) = 1 then Sh.set_fg (Sh.set_kd (Sh.set_hd (F (sv xs (t + 1)).toNat) 1) (sv xs (t + 3))) (sv xs (t + 4)) else Sh.set_hd (F (sv xs (t + 1)).toNat) 0)) (Ct.set_wa N x1) M1 (Ct.set_wa P y1) hp s1) [(o, aJ X.γ 1 g)]) rfl ok_X12_keep (roomOk_k rfl (show k + 0 + 0 ≤ 601024 by omega) (show n + 0 + 0 ≤ 7293034 by omega)) rfl rfl rfl dL_law_1517 (fun r2 v2 hv2 => ?_)
    obtain ⟨w2, hq2, rfl⟩ := hv2
    rcases hq2 with ⟨cc2, e2, hW2⟩ | ⟨cc2, e2, hW2⟩
    · refine x_eqS C (e1.trans e2.symm) 1813 (by decide) dL_law_1520 ?_
      refine Wx.widen (k' := k + 1) (n' := n + 6) (by omega) (by omega) ?_
      exact kk _ ⟨upF F (sv xs (t + 1)).toNat (if (sv xs (t + 2)) = 1 then Sh.set_fg (Sh.set_kd (Sh.set_hd (F (sv xs (t + 1)).toNat) 1) (sv xs (t + 3))) (sv xs (t + 4)) else Sh.set_hd (F (sv xs (t + 1)).toNat) 0), Ct.set_wa N x1, M1, Ct.set_wa P y1, hp, s1, upz mhw (sv xs (t + 1)) (sv xs (t + 2)), upz mkk (sv xs (t + 1)) (if (sv xs (t + 2)) = 1 then (sv xs (t + 3)) else 0), upz mkf (sv xs (t + 1)) (if (sv xs (t + 2)) = 1 then (sv xs (t + 4)) else 0), mrs, mrm, mrw, 0, Q, w2, g, rfl, hW2, INV.f hI (hSh.keep cc1.1 cc1.2.1 cc1.2.2) x1 y1⟩
    · exfalso
      omega
  · refine Wx.eqW (wl_eq (WX X.γ b F (Ct.set_wa N x1) M1 (Ct.set_wa P y1) hp s1) (WM X.γ a (Ct.h N) (Ct.n N) (Ct.kd N) (Ct.fg N) (Ct.ag N) (Ct.po N) (Ct.wy N) (Ct.dy N) mhw mkk mkf mrs mrm mrw mth 0 mgr mwa mre mpl mib msn mpn mlo mtl mke (PCQ Q) hp mp0 mtk mki mun msd mbe) [(o, aJ X.γ 1 g)]) ?_
    refine x_aload_n C 2 (i := 2) rfl rfl dL_law_1492 ?_
    refine x_arg C hX 0 4 rfl rfl 1 rfl (by omega) dL_law_1493 dL_law_1494 dL_law_1496 dL_law_1497 dL_law_1498 ?_
    refine x_arg C hX 0 4 rfl rfl 2 rfl (by omega) dL_law_1499 dL_law_1500 dL_law_1502 dL_law_1503 dL_law_1504 ?_
    refine x_arg C hX 0 4 rfl rfl 3 rfl (by omega) dL_law_1505 dL_law_1506 dL_law_1508 dL_law_1509 dL_law_1510 ?_
    refine x_arg C hX 0 4 rfl rfl 4 rfl (by omega) dL_law_1511 dL_law_1512 dL_law_1514 dL_law_1515 dL_law_1516 ?_
    refine x_V_I C (As := [.int (iN (sv xs (t + 1))), .int (iN (sv xs (t + 2))), .int (iN (sv xs (t + 3))), .int (iN (sv xs (t + 4)))]) (rest := [.int (iN r1)]) 4 60 rfl rfl gL_law_X12_keep rfl ((c_X12_keep _ _ a (Ct.h N) (Ct.n N) (Ct.kd N) (Ct.fg N) (Ct.ag N) (Ct.po N) (Ct.wy N) (Ct.dy N) mhw mkk mkf mrs mrm mrw mth mgr mwa mre mpl mib msn mpn mlo mtl mke (PCQ Q) hp mp0 mtk mki mun msd mbe (INV.m hI) (sv xs (t + 1)) (sv xs (t + 2)) (sv xs (t + 3)) (sv xs (t + 4)) (sv_b xs (t + 1)) (sv_b xs (t + 2)) (sv_b xs (t + 3)) (sv_b xs (t + 4))).app (WX X.γ b F (Ct.set_wa N x1) M1 (Ct.set_wa P y1) hp s1) [(o, aJ X.γ 1 g)]) rfl ok_X12_keep (roomOk_k rfl (show k + 0 + 0 ≤ 601024 by omega) (show n + 0 + 0 ≤ 7293034 by omega)) rfl rfl rfl dL_law_1517 (fun r2 v2 hv2 => ?_)
    obtain ⟨w2, hq2, rfl⟩ := hv2
    rcases hq2 with ⟨cc2, e2, hW2⟩ | ⟨cc2, e2, hW2⟩
    · exfalso
      omega
    · refine x_eqS C (by omega) 1813 (by decide) dL_law_1520 ?_
      refine Wx.widen (k' := k + 1) (n' := n + 6) (by omega) (by omega) ?_
      exact kk _ ⟨F, Ct.set_wa N x1, M1, Ct.set_wa P y1, hp, s1, mhw, mkk, mkf, mrs, mrm, mrw, 0, Q, w2, g, rfl, hW2, INV.ct hI hNI x1 y1⟩
