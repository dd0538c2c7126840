set_option maxRecDepth 100000 in
set_option maxHeartbeats 1000000 in
theorem lw_c44 {X : CX} (C : Cx X cL_law 8 RL wsL_law room_1) (hz : ZG X.A X.s) (hst : X.l.stackTraces = false) {q0 L : Nat} {xs : Nat → Int32} (hX : SCR X q0 L xs) {t : Nat} (ht : t + 6 ≤ L) {k n : Nat} (hk : k + 1 ≤ 601024) (hn : n + 6 ≤ 7293034) {b a : Nat → Nat} {o : Nat} {w : va_W} (hI : LI X.γ b a o w) (kk : ∀ w9 : va_W, LI X.γ b a o w9 → Wx X (k + 1) (n + 6) w9 1813 [(4, .int (iN ((t : Nat) : Int))), (3, .ref o), (2, .ref (a 0)), (1, .ref (b 0)), (0, .ref q0)] []) : Wx X k n w 1788 [(4, .int (iN ((t : Nat) : Int))), (3, .ref o), (2, .ref (a 0)), (1, .ref (b 0)), (0, .ref q0)] [] := by
  obtain ⟨F, N, M, P, hp, sd, mhw, mkk, mkf, mrs, mrm, mrw, mth, Q, wb, g, rfl, hWk, hI⟩ := hI
  obtain ⟨mgr, mwa, mre, mpl, mib, msn, mpn, mlo, mtl, mke, mp0, mtk, mki, mun, msd, mbe, rfl⟩ := hWk
  have hNI := hI.1
  have hSh := hI.2.2.2.2
  obtain ⟨s3, z3, eL, hs⟩ := hNI.2.2
  have hn0 : 0 ≤ Ct.n N := hNI.1.n.1
  refine Wx.eqW (wl_eq (WX X.γ b F N M P hp sd) (WM X.γ a (Ct.h N) (Ct.n N) (Ct.kd N) (Ct.fg N) (Ct.ag N) (Ct.po N) (Ct.wy N) (Ct.dy N) mhw mkk mkf mrs mrm mrw mth 0 mgr mwa mre mpl mib msn mpn mlo mtl mke (PCQ Q) hp mp0 mtk mki mun msd mbe) [(o, aJ X.γ 1 g)]).symm ?_
  refine x_aload_n C 3 (i := 1) rfl rfl dL_law_1788 ?_
  refine x_arg C hX 0 4 rfl rfl 1 rfl (by omega) dL_law_1789 dL_law_1790 dL_law_1792 dL_law_1793 dL_law_1794 ?_
  refine x_V_Iz C hz (As := [.int (iN (sv xs (t + 1)))]) (rest := []) 1 0 rfl rfl gL_law_X11_toss rfl ((c_X11_toss _ hst _ b F N M P hp sd hI.1.1 hI.2.2.2.2.1 (sv xs (t + 1)) (sv_b xs (t + 1))).app [] (WM X.γ a (Ct.h N) (Ct.n N) (Ct.kd N) (Ct.fg N) (Ct.ag N) (Ct.po N) (Ct.wy N) (Ct.dy N) mhw mkk mkf mrs mrm mrw mth 0 mgr mwa mre mpl mib msn mpn mlo mtl mke (PCQ Q) hp mp0 mtk mki mun msd mbe ++ [(o, aJ X.γ 1 g)])) rfl ok_X11_toss (roomOk_k rfl (show k + 1 ≤ 601024 by omega) (show n + 6 ≤ 7293034 by omega)) rfl rfl rfl dL_law_1795 (fun r1 v1 hv1 => ?_)
  obtain ⟨w1, ⟨e1, x1, y1, M1, s1, rfl⟩, rfl⟩ := hv1
  refine Wx.eqW (wl_eq (WX X.γ b F (Ct.set_wa N x1) M1 (Ct.set_wa P y1) hp s1) (WM X.γ a (Ct.h N) (Ct.n N) (Ct.kd N) (Ct.fg N) (Ct.ag N) (Ct.po N) (Ct.wy N) (Ct.dy N) mhw mkk mkf mrs mrm mrw mth 0 mgr mwa mre mpl mib msn mpn mlo mtl mke (PCQ Q) hp mp0 mtk mki mun msd mbe) [(o, aJ X.γ 1 g)]) ?_
  refine x_aload_n C 2 (i := 2) rfl rfl dL_law_1798 ?_
  refine x_arg C hX 0 4 rfl rfl 1 rfl (by omega) dL_law_1799 dL_law_1800 dL_law_1802 dL_law_1803 dL_law_1804 ?_
  refine x_V_I C (As := [.int (iN (sv xs (t + 1)))]) (rest := [.int (iN r1)]) 1 60 rfl rfl gL_law_X12_toss rfl ((c_X12_toss _ _ a (Ct.h N) (Ct.n N) (Ct.kd N) (Ct.fg N) (Ct.ag N) (Ct.po N) (Ct.wy N) (Ct.dy N) mhw mkk mkf mrs mrm mrw mth mgr mwa mre mpl mib msn mpn mlo mtl mke (PCQ Q) hp mp0 mtk mki mun msd mbe (INV.m hI) (sv xs (t + 1)) (sv_b xs (t + 1))).app (WX X.γ b F (Ct.set_wa N x1) M1 (Ct.set_wa P y1) hp s1) [(o, aJ X.γ 1 g)]) rfl ok_X12_toss (roomOk_k rfl (show k + 1 + 0 ≤ 601024 by omega) (show n + 6 + 0 ≤ 7293034 by omega)) rfl rfl rfl dL_law_1805 (fun r2 v2 hv2 => ?_)
  obtain ⟨w2, ⟨e2, hW2⟩, rfl⟩ := hv2
  refine x_eqS C (e1.trans (Eq.trans (kind_c hSh _ q_ths).symm e2.symm)) 1813 (by decide) dL_law_1808 ?_
  refine Wx.widen (k' := k + 1) (n' := n + 6) (by omega) (by omega) ?_
  exact kk _ ⟨F, Ct.set_wa N x1, M1, Ct.set_wa P y1, hp, s1, mhw, mkk, mkf, mrs, mrm, mrw, 0, Q, w2, g, rfl, hW2, INV.ct hI hNI x1 y1⟩
