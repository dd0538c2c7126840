set_option maxRecDepth 100000 in
set_option maxHeartbeats 1000000 in
theorem lw_c0 {X : CX} (C : Cx X cL_law 8 RL wsL_law room_1) (hz : ZG X.A X.s) (hst : X.l.stackTraces = false) {q0 L : Nat} {xs : Nat → Int32} (hX : SCR X q0 L xs) {t : Nat} (ht : t + 6 ≤ L) {k n : Nat} (hk : k + 1 ≤ 601024) (hn : n + 6 ≤ 7293034) {b a : Nat → Nat} {o : Nat} {w : va_W} (hI : LI X.γ b a o w) (kk : ∀ w9 : va_W, LI X.γ b a o w9 → Wx X (k + 1) (n + 6) w9 1813 [(4, .int (iN ((t : Nat) : Int))), (3, .ref o), (2, .ref (a 0)), (1, .ref (b 0)), (0, .ref q0)] []) : Wx X k n w 236 [(4, .int (iN ((t : Nat) : Int))), (3, .ref o), (2, .ref (a 0)), (1, .ref (b 0)), (0, .ref q0)] [] := by
  obtain ⟨F, N, M, P, hp, sd, mhw, mkk, mkf, mrs, mrm, mrw, mth, Q, wb, g, rfl, hWk, hI⟩ := hI
  obtain ⟨mgr, mwa, mre, mpl, mib, msn, mpn, mlo, mtl, mke, mp0, mtk, mki, mun, msd, mbe, rfl⟩ := hWk
  have hNI := hI.1
  have hSh := hI.2.2.2.2
  obtain ⟨s3, z3, eL, hs⟩ := hNI.2.2
  have hn0 : 0 ≤ Ct.n N := hNI.1.n.1
  refine Wx.eqW (wl_eq (WX X.γ b F N M P hp sd) (WM X.γ a (Ct.h N) (Ct.n N) (Ct.kd N) (Ct.fg N) (Ct.ag N) (Ct.po N) (Ct.wy N) (Ct.dy N) mhw mkk mkf mrs mrm mrw mth 0 mgr mwa mre mpl mib msn mpn mlo mtl mke (PCQ Q) hp mp0 mtk mki mun msd mbe) [(o, aJ X.γ 1 g)]).symm ?_
  refine x_aload_n C 3 (i := 1) rfl rfl dL_law_236 ?_
  refine x_arg C hX 0 4 rfl rfl 1 rfl (by omega) dL_law_237 dL_law_238 dL_law_240 dL_law_241 dL_law_242 ?_
  refine x_V_I C (As := [.int (iN (sv xs (t + 1)))]) (rest := []) 1 0 rfl rfl gL_law_X11_country rfl ((c_X11_country _ _ b F N M P hp sd hI.1.1 hI.2.2.2.2.1 (sv xs (t + 1)) (sv_b xs (t + 1)) hI.1.2.1).app [] (WM X.γ a (Ct.h N) (Ct.n N) (Ct.kd N) (Ct.fg N) (Ct.ag N) (Ct.po N) (Ct.wy N) (Ct.dy N) mhw mkk mkf mrs mrm mrw mth 0 mgr mwa mre mpl mib msn mpn mlo mtl mke (PCQ Q) hp mp0 mtk mki mun msd mbe ++ [(o, aJ X.γ 1 g)])) rfl ok_X11_country (roomOk_k rfl (show k + 0 ≤ 601024 by omega) (show n + 0 ≤ 7293034 by omega)) rfl rfl rfl dL_law_243 (fun r1 v1 hv1 => ?_)
  obtain ⟨w1, ⟨e1, hq1⟩, rfl⟩ := hv1
  rcases hq1 with ⟨cc1, x1, y1, M1, s1, rfl⟩ | ⟨cc1, x1, y1, M1, s1, rfl⟩
  · refine Wx.eqW (wl_eq (WX X.γ b F (Ct.set_wa ((runS (Sh.vz (F (sv xs (t + 1)).toNat)) (Sh.sz (F (sv xs (t + 1)).toNat)) 100 0 0 N).2) x1) M1 (Ct.set_wa P y1) hp s1) (WM X.γ a (Ct.h N) (Ct.n N) (Ct.kd N) (Ct.fg N) (Ct.ag N) (Ct.po N) (Ct.wy N) (Ct.dy N) mhw mkk mkf mrs mrm mrw mth 0 mgr mwa mre mpl mib msn mpn mlo mtl mke (PCQ Q) hp mp0 mtk mki mun msd mbe) [(o, aJ X.γ 1 g)]) ?_
    refine x_aload_n C 2 (i := 2) rfl rfl dL_law_246 ?_
    refine x_arg C hX 0 4 rfl rfl 1 rfl (by omega) dL_law_247 dL_law_248 dL_law_250 dL_law_251 dL_law_252 ?_
    refine x_V_I C (As := [.int (iN (sv xs (t + 1)))]) (rest := [.int (iN r1)]) 1 60 rfl rfl gL_law_X12_country rfl ((c_X12_country _ _ a (Ct.h N) (Ct.n N) (Ct.kd N) (Ct.fg N) (Ct.ag N) (Ct.po N) (Ct.wy N) (Ct.dy N) mhw mkk mkf mrs mrm mrw mth mgr mwa mre mpl mib msn mpn mlo mtl mke (PCQ Q) hp mp0 mtk mki mun msd mbe (INV.m hI) (sv xs (t + 1)) (sv_b xs (t + 1)) hI.1.2.1).app (WX X.γ b F (Ct.set_wa ((runS (Sh.vz (F (sv xs (t + 1)).toNat)) (Sh.sz (F (sv xs (t + 1)).toNat)) 100 0 0 N).2) x1) M1 (Ct.set_wa P y1) hp s1) [(o, aJ X.γ 1 g)]) rfl ok_X12_country (roomOk_k rfl (show k + 0 + 0 ≤ 601024 by omega) (show n + 0 + 0 ≤ 7293034 by omega)) rfl rfl rfl dL_law_253 (fun r2 v2 hv2 => ?_)
    obtain ⟨w2, ⟨e2, hq2⟩, rfl⟩ := hv2
    have he : r1 = r2 := (e1.trans (Eq.trans (k_country (D := K3 N s3 z3) ⟨s3, z3, rfl, hs⟩ hn0 _ _ _ _ _).symm (by rw [← eL]; exact (country_c hSh _ _).symm.trans e2.symm)))
    rcases hq2 with ⟨cc2, hW2⟩ | ⟨cc2, hW2⟩
    · have hd : 0 ≤ (sv xs (t + 1)) ∧ (sv xs (t + 1)) ≤ 7 := Classical.byContradiction fun q => by
        rw [country_neg q] at e1
        omega
      obtain ⟨s4, z4, e4, -⟩ := (run_k (Sh.vz (F (sv xs (t + 1)).toNat)) (Sh.sz (F (sv xs (t + 1)).toNat)) 100 0 0 N (LcO N) hNI.2.2 hn0).2
      have e3 : (runS (uz (fun t9 => mrw (100 * (sv xs (t + 1)) + t9)) (mrm (sv xs (t + 1)))) (mrm (sv xs (t + 1))) 100 0 0 (Lc (Ct.h N) (Ct.n N) (Ct.dy N) (Ct.kd N) (Ct.fg N) (Ct.ag N) (Ct.po N) (Ct.wy N))).2 = K3 ((runS (Sh.vz (F (sv xs (t + 1)).toNat)) (Sh.sz (F (sv xs (t + 1)).toNat)) 100 0 0 N).2) s4 z4 := by
        rw [uz_c hSh hd.1 hd.2, (hSh.2.2 (sv xs (t + 1)) hd.1 hd.2).1.2.2]
        exact e4
      rw [e3] at hW2
      refine x_eqS C he 1813 (by decide) dL_law_256 ?_
      refine Wx.widen (k' := k + 1) (n' := n + 6) (by omega) (by omega) ?_
      exact kk _ ⟨F, Ct.set_wa ((runS (Sh.vz (F (sv xs (t + 1)).toNat)) (Sh.sz (F (sv xs (t + 1)).toNat)) 100 0 0 N).2) x1, M1, Ct.set_wa P y1, hp, s1, mhw, mkk, mkf, mrs, mrm, mrw, 0, Q, w2, g, rfl, hW2, INV.ct hI (hNI.run _ _) x1 y1⟩
    · exfalso
      omega
  · refine Wx.eqW (wl_eq (WX X.γ b F (Ct.set_wa N x1) M1 (Ct.set_wa P y1) hp s1) (WM X.γ a (Ct.h N) (Ct.n N) (Ct.kd N) (Ct.fg N) (Ct.ag N) (Ct.po N) (Ct.wy N) (Ct.dy N) mhw mkk mkf mrs mrm mrw mth 0 mgr mwa mre mpl mib msn mpn mlo mtl mke (PCQ Q) hp mp0 mtk mki mun msd mbe) [(o, aJ X.γ 1 g)]) ?_
    refine x_aload_n C 2 (i := 2) rfl rfl dL_law_246 ?_
    refine x_arg C hX 0 4 rfl rfl 1 rfl (by omega) dL_law_247 dL_law_248 dL_law_250 dL_law_251 dL_law_252 ?_
    refine x_V_I C (As := [.int (iN (sv xs (t + 1)))]) (rest := [.int (iN r1)]) 1 60 rfl rfl gL_law_X12_country rfl ((c_X12_country _ _ a (Ct.h N) (Ct.n N) (Ct.kd N) (Ct.fg N) (Ct.ag N) (Ct.po N) (Ct.wy N) (Ct.dy N) mhw mkk mkf mrs mrm mrw mth mgr mwa mre mpl mib msn mpn mlo mtl mke (PCQ Q) hp mp0 mtk mki mun msd mbe (INV.m hI) (sv xs (t + 1)) (sv_b xs (t + 1)) hI.1.2.1).app (WX X.γ b F (Ct.set_wa N x1) M1 (Ct.set_wa P y1) hp s1) [(o, aJ X.γ 1 g)]) rfl ok_X12_country (roomOk_k rfl (show k + 0 + 0 ≤ 601024 by omega) (show n + 0 + 0 ≤ 7293034 by omega)) rfl rfl rfl dL_law_253 (fun r2 v2 hv2 => ?_)
    obtain ⟨w2, ⟨e2, hq2⟩, rfl⟩ := hv2
    have he : r1 = r2 := (e1.trans (Eq.trans (k_country (D := K3 N s3 z3) ⟨s3, z3, rfl, hs⟩ hn0 _ _ _ _ _).symm (by rw [← eL]; exact (country_c hSh _ _).symm.trans e2.symm)))
    rcases hq2 with ⟨cc2, hW2⟩ | ⟨cc2, hW2⟩
    · exfalso
      omega
    · refine x_eqS C he 1813 (by decide) dL_law_256 ?_
      refine Wx.widen (k' := k + 1) (n' := n + 6) (by omega) (by omega) ?_
      exact kk _ ⟨F, Ct.set_wa N x1, M1, Ct.set_wa P y1, hp, s1, mhw, mkk, mkf, mrs, mrm, mrw, 0, Q, w2, g, rfl, hW2, INV.ct hI hNI x1 y1⟩
