set_option maxRecDepth 100000 in
set_option maxHeartbeats 1000000 in
theorem lw_c36 {X : CX} (C : Cx X cL_law 8 RL wsL_law room_1) (hz : ZG X.A X.s) (hst : X.l.stackTraces = false) {q0 L : Nat} {xs : Nat → Int32} (hX : SCR X q0 L xs) {t : Nat} (ht : t + 6 ≤ L) {k n : Nat} (hk : k + 1 ≤ 601024) (hn : n + 6 ≤ 7293034) {b a : Nat → Nat} {o : Nat} {w : va_W} (hI : LI X.γ b a o w) (kk : ∀ w9 : va_W, LI X.γ b a o w9 → Wx X (k + 1) (n + 6) w9 1813 [(4, .int (iN ((t : Nat) : Int))), (3, .ref o), (2, .ref (a 0)), (1, .ref (b 0)), (0, .ref q0)] []) : Wx X k n w 1426 [(4, .int (iN ((t : Nat) : Int))), (3, .ref o), (2, .ref (a 0)), (1, .ref (b 0)), (0, .ref q0)] [] := by
  obtain ⟨F, N, M, P, hp, sd, mhw, mkk, mkf, mrs, mrm, mrw, mth, Q, wb, g, rfl, hWk, hI⟩ := hI
  obtain ⟨mgr, mwa, mre, mpl, mib, msn, mpn, mlo, mtl, mke, mp0, mtk, mki, mun, msd, mbe, rfl⟩ := hWk
  have hNI := hI.1
  have hSh := hI.2.2.2.2
  obtain ⟨s3, z3, eL, hs⟩ := hNI.2.2
  have hn0 : 0 ≤ Ct.n N := hNI.1.n.1
  refine Wx.eqW (wl_eq (WX X.γ b F N M P hp sd) (WM X.γ a (Ct.h N) (Ct.n N) (Ct.kd N) (Ct.fg N) (Ct.ag N) (Ct.po N) (Ct.wy N) (Ct.dy N) mhw mkk mkf mrs mrm mrw mth 0 mgr mwa mre mpl mib msn mpn mlo mtl mke (PCQ Q) hp mp0 mtk mki mun msd mbe) [(o, aJ X.γ 1 g)]).symm ?_
  refine x_aload_n C 3 (i := 1) rfl rfl dL_law_1426 ?_
  refine x_V_I C (As := []) (rest := []) 0 0 rfl rfl gL_law_X11_restore rfl ((c_X11_restore _ _ b F N M P hp sd hI.1.1 hI.2.2.2.2.1 hI.2.2.1).app [] (WM X.γ a (Ct.h N) (Ct.n N) (Ct.kd N) (Ct.fg N) (Ct.ag N) (Ct.po N) (Ct.wy N) (Ct.dy N) mhw mkk mkf mrs mrm mrw mth 0 mgr mwa mre mpl mib msn mpn mlo mtl mke (PCQ Q) hp mp0 mtk mki mun msd mbe ++ [(o, aJ X.γ 1 g)])) rfl ok_X11_restore (roomOk_k rfl (show k + 0 ≤ 601024 by omega) (show n + 0 ≤ 7293034 by omega)) rfl rfl rfl dL_law_1427 (fun r1 v1 hv1 => ?_)
  obtain ⟨w1, hq1, rfl⟩ := hv1
  rcases hq1 with ⟨cc1, e1, x1, y1, M1, s1, rfl⟩ | ⟨cc1, e1, x1, y1, M1, s1, rfl⟩
  · refine Wx.eqW (wl_eq (WX X.γ b F (Ct.set_wa P x1) M1 (Ct.set_wa P y1) hp s1) (WM X.γ a (Ct.h N) (Ct.n N) (Ct.kd N) (Ct.fg N) (Ct.ag N) (Ct.po N) (Ct.wy N) (Ct.dy N) mhw mkk mkf mrs mrm mrw mth 0 mgr mwa mre mpl mib msn mpn mlo mtl mke (PCQ Q) hp mp0 mtk mki mun msd mbe) [(o, aJ X.γ 1 g)]) ?_
    refine x_aload_n C 2 (i := 2) rfl rfl dL_law_1430 ?_
    refine x_V_I C (As := []) (rest := [.int (iN r1)]) 0 60 rfl rfl gL_law_X12_restore rfl ((c_X12_restore _ _ a (Ct.h N) (Ct.n N) (Ct.kd N) (Ct.fg N) (Ct.ag N) (Ct.po N) (Ct.wy N) (Ct.dy N) mhw mkk mkf mrs mrm mrw mth mgr mwa mre mpl mib msn mpn mlo mtl mke hp mp0 mtk mki mun msd mbe (Ct.h Q) (Ct.n Q) (Ct.dy Q) (Ct.kd Q) (Ct.fg Q) (Ct.ag Q) (Ct.po Q) (Ct.wy Q) hI.2.2.1).app (WX X.γ b F (Ct.set_wa P x1) M1 (Ct.set_wa P y1) hp s1) [(o, aJ X.γ 1 g)]) rfl ok_X12_restore (roomOk_k rfl (show k + 0 + 0 ≤ 601024 by omega) (show n + 0 + 0 ≤ 7293034 by omega)) rfl rfl rfl dL_law_1431 (fun r2 v2 hv2 => ?_)
    obtain ⟨w2, hq2, rfl⟩ := hv2
    rcases hq2 with ⟨cc2, e2, hW2⟩ | ⟨cc2, e2, hW2⟩
    · have eQ := hI.2.2.2.1 cc1
      have q_h : Ct.h Q = Ct.h P := (show Ct.h (LcO Q) = Ct.h (LcO P) from congrArg Ct.h eQ)
      have q_n : Ct.n Q = Ct.n P := (show Ct.n (LcO Q) = Ct.n (LcO P) from congrArg Ct.n eQ)
      have q_dy : Ct.dy Q = Ct.dy P := (show Ct.dy (LcO Q) = Ct.dy (LcO P) from congrArg Ct.dy eQ)
      have q_kd : Ct.kd Q = Ct.kd P := (show Ct.kd (LcO Q) = Ct.kd (LcO P) from congrArg Ct.kd eQ)
      have q_fg : Ct.fg Q = Ct.fg P := (show Ct.fg (LcO Q) = Ct.fg (LcO P) from congrArg Ct.fg eQ)
      have q_ag : Ct.ag Q = Ct.ag P := (show Ct.ag (LcO Q) = Ct.ag (LcO P) from congrArg Ct.ag eQ)
      have q_po : Ct.po Q = Ct.po P := (show Ct.po (LcO Q) = Ct.po (LcO P) from congrArg Ct.po eQ)
      have q_wy : Ct.wy Q = Ct.wy P := (show Ct.wy (LcO Q) = Ct.wy (LcO P) from congrArg Ct.wy eQ)
      rw [q_h, q_n, q_dy, q_kd, q_fg, q_ag, q_po, q_wy] at hW2
      rw [q_dy] at e2
      refine x_eqS C (e1.trans e2.symm) 1813 (by decide) dL_law_1434 ?_
      refine Wx.widen (k' := k + 1) (n' := n + 6) (by omega) (by omega) ?_
      exact kk _ ⟨F, Ct.set_wa P x1, M1, Ct.set_wa P y1, hp, s1, mhw, mkk, mkf, mrs, mrm, mrw, 0, P, w2, g, rfl, hW2, ⟨hI.2.1.wa x1, hI.2.1.wa y1, hI.2.2.1, fun _ => rfl, hSh⟩⟩
    · exfalso
      omega
  · refine Wx.eqW (wl_eq (WX X.γ b F (Ct.set_wa N x1) M1 (Ct.set_wa P y1) hp s1) (WM X.γ a (Ct.h N) (Ct.n N) (Ct.kd N) (Ct.fg N) (Ct.ag N) (Ct.po N) (Ct.wy N) (Ct.dy N) mhw mkk mkf mrs mrm mrw mth 0 mgr mwa mre mpl mib msn mpn mlo mtl mke (PCQ Q) hp mp0 mtk mki mun msd mbe) [(o, aJ X.γ 1 g)]) ?_
    refine x_aload_n C 2 (i := 2) rfl rfl dL_law_1430 ?_
    refine x_V_I C (As := []) (rest := [.int (iN r1)]) 0 60 rfl rfl gL_law_X12_restore rfl ((c_X12_restore _ _ a (Ct.h N) (Ct.n N) (Ct.kd N) (Ct.fg N) (Ct.ag N) (Ct.po N) (Ct.wy N) (Ct.dy N) mhw mkk mkf mrs mrm mrw mth mgr mwa mre mpl mib msn mpn mlo mtl mke hp mp0 mtk mki mun msd mbe (Ct.h Q) (Ct.n Q) (Ct.dy Q) (Ct.kd Q) (Ct.fg Q) (Ct.ag Q) (Ct.po Q) (Ct.wy Q) hI.2.2.1).app (WX X.γ b F (Ct.set_wa N x1) M1 (Ct.set_wa P y1) hp s1) [(o, aJ X.γ 1 g)]) rfl ok_X12_restore (roomOk_k rfl (show k + 0 + 0 ≤ 601024 by omega) (show n + 0 + 0 ≤ 7293034 by omega)) rfl rfl rfl dL_law_1431 (fun r2 v2 hv2 => ?_)
    obtain ⟨w2, hq2, rfl⟩ := hv2
    rcases hq2 with ⟨cc2, e2, hW2⟩ | ⟨cc2, e2, hW2⟩
    · exfalso
      omega
    · refine x_eqS C (by omega) 1813 (by decide) dL_law_1434 ?_
      refine Wx.widen (k' := k + 1) (n' := n + 6) (by omega) (by omega) ?_
      exact kk _ ⟨F, Ct.set_wa N x1, M1, Ct.set_wa P y1, hp, s1, mhw, mkk, mkf, mrs, mrm, mrw, 0, Q, w2, g, rfl, hW2, INV.ct hI hNI x1 y1⟩
