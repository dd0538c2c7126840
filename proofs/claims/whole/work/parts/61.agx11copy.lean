section HXGag
theorem in_X11_copy_X11 : ∀ w ∈ u_ws RX11 TX11 6, w ∈ wsX11_copy := by decide +kernel
theorem in_X11_copy_X5 : ∀ w ∈ u_ws RX5 TX5 6, w ∈ wsX11_copy := by decide +kernel
theorem ok_X11_copy : okY yX11_copy 5 := by decide +kernel
def rmX11_copy : Room := { frames := 2, cells := 0, slots := 0, locals := 60 }
set_option maxRecDepth 100000 in
set_option maxHeartbeats 400000 in
theorem c_X11_copy (l : Launch) (γ : GX) (b : Nat → Nat) (F : Nat → Sh) (N M P : Ct) (hp sd : Int) (hN : WFc N) (hF : ∀ t : Nat, t < 8 → WFs (F t)) (d : Int) (i : Int) (e : Int) (j : Int) (m : Int) (h0_ : -2147483648 ≤ d ∧ d < 2147483648) (h1_ : -2147483648 ≤ i ∧ i < 2147483648) (h2_ : -2147483648 ≤ e ∧ e < 2147483648) (h3_ : -2147483648 ≤ j ∧ j < 2147483648) (h4_ : -2147483648 ≤ m ∧ m < 2147483648) : MI l γ yX11_copy wsX11_copy rmX11_copy [.ref (b 0), .int (iN (d)), .int (iN (i)), .int (iN (e)), .int (iN (j)), .int (iN (m))] (WX γ b F N M P hp sd) (fun r_ w_ => ((((0 ≤ d ∧ d ≤ 7) ∧ 0 ≤ e ∧ e ≤ 7) ∧ (Sh.hd (F d.toNat) = 2 ∧ Sh.hd (F e.toNat) = 2 ∧ Sh.so (F d.toNat) = Sh.so (F e.toNat)) ∧ (0 ≤ m ∧ 0 ≤ i ∧ 0 ≤ j) ∧ i + m ≤ Sh.sz (F d.toNat) ∧ j + m ≤ Sh.sz (F e.toNat)) ∧ r_ = m ∧ Wc γ b (upF F e.toNat (Sh.set_va (F e.toNat) (cpz (Sh.va (F d.toNat)) (Sh.va (F e.toNat)) i j m))) N P hp w_) ∨ (¬ (((0 ≤ d ∧ d ≤ 7) ∧ 0 ≤ e ∧ e ≤ 7) ∧ (Sh.hd (F d.toNat) = 2 ∧ Sh.hd (F e.toNat) = 2 ∧ Sh.so (F d.toNat) = Sh.so (F e.toNat)) ∧ (0 ≤ m ∧ 0 ≤ i ∧ 0 ≤ j) ∧ i + m ≤ Sh.sz (F d.toNat) ∧ j + m ≤ Sh.sz (F e.toNat)) ∧ r_ = (if (0 ≤ d ∧ d ≤ 7) ∧ 0 ≤ e ∧ e ≤ 7 then (if Sh.hd (F d.toNat) = 0 ∨ Sh.hd (F e.toNat) = 0 then -11 else if Sh.hd (F d.toNat) = 2 ∧ Sh.hd (F e.toNat) = 2 ∧ Sh.so (F d.toNat) = Sh.so (F e.toNat) then -13 else -12) else -1) ∧ Wc γ b F N P hp w_)) 0 0 := by
  refine MI.of (cc := cX11_copy) (maxL := 8) (rt := .int) RX11 rfl (by decide +kernel) rfl (Nat.le_of_ble_eq_true rfl) ?_
  intro X C hγ hl hnm hret
  subst hγ
  have hNn := WFc.n hN
  show Wx X 0 0 (WX X.γ b F N M P hp sd) 0 [(0, .ref (b 0)), (1, .int (iN (d))), (2, .int (iN (i))), (3, .int (iN (e))), (4, .int (iN (j))), (5, .int (iN (m)))] []
  refine x_iload_n C 1 rfl rfl dX11_copy_0 ?_
  refine x_S_I C (As := [.int (iN (d))]) (rest := []) 1 gX11_copy_X11_isShelf (c_X11_isShelf _ _ (WX X.γ b F N M P hp sd) (d) (by omega)) rfl ok_X11_isShelf rfl rfl rfl rfl dX11_copy_1 (fun r w1 hp => ?_)
  obtain ⟨rfl, rfl⟩ := hp
  refine x_ifeq_bz C 14 (by decide) dX11_copy_4 (fun c_4 => ?_) (fun c_4 => ?_)
  · refine x_iconst (v := 0) C dX11_copy_14 ?_
    exact hret _ _ _ _ dX11_copy_15 rfl (Or.inr ⟨(by omega), (by omega), ⟨(Ct.wa N), (Ct.wa P), _, _, rfl⟩⟩)
  · refine x_iload_n C 3 rfl rfl dX11_copy_7 ?_
    refine x_S_I C (As := [.int (iN (e))]) (rest := []) 1 gX11_copy_X11_isShelf (c_X11_isShelf _ _ (WX X.γ b F N M P hp sd) (e) (by omega)) rfl ok_X11_isShelf rfl rfl rfl rfl dX11_copy_8 (fun r w1 hp => ?_)
    obtain ⟨rfl, rfl⟩ := hp
    refine x_ifne_bz C 16 (by decide) dX11_copy_11 (fun c_11 => ?_) (fun c_11 => ?_)
    · have hFd := hF d.toNat (by omega)
      have hSz := WFs.sz hFd
      have hFe := hF e.toNat (by omega)
      have hSe := WFs.sz hFe
      have hFh : 0 ≤ Sh.hd (F d.toNat) ∧ Sh.hd (F d.toNat) ≤ 2 := hFd.1
      have hFg : 0 ≤ Sh.hd (F e.toNat) ∧ Sh.hd (F e.toNat) ≤ 2 := hFe.1
      have hSo := WFs.so hFd
      have hSp := WFs.so hFe
      refine x_aload_n C 0 rfl rfl dX11_copy_16 ?_
      refine x_get C in_X11_copy_X11 0 rfl rfl 0 (by decide) (List.mem_of_getElem? (i := 1) rfl) rfl (v := .ref (b 1)) rfl dX11_copy_17 ?_
      refine x_iload_n C 1 rfl rfl dX11_copy_20 ?_
      refine x_aaload C (f := fun k => some (b (2 + 2 * k.toNat))) (b := b (2 + 2 * d.toNat)) 1 rfl (by omega) rfl rfl dX11_copy_21 ?_
      refine x_astore C [(6, .ref (b (2 + 2 * d.toNat))), (0, .ref (b 0)), (1, .int (iN (d))), (2, .int (iN (i))), (3, .int (iN (e))), (4, .int (iN (j))), (5, .int (iN (m)))] (by decide) rfl dX11_copy_22 ?_
      refine x_aload_n C 1 rfl rfl dX11_copy_24 ?_
      refine x_get C in_X11_copy_X11 0 rfl rfl 0 (by decide) (List.mem_of_getElem? (i := 1) rfl) rfl (v := .ref (b 1)) rfl dX11_copy_25 ?_
      refine x_iload_n C 4 rfl rfl dX11_copy_28 ?_
      refine x_aaload C (f := fun k => some (b (2 + 2 * k.toNat))) (b := b (2 + 2 * e.toNat)) 1 rfl (by omega) rfl rfl dX11_copy_29 ?_
      refine x_astore C [(7, .ref (b (2 + 2 * e.toNat))), (6, .ref (b (2 + 2 * d.toNat))), (0, .ref (b 0)), (1, .int (iN (d))), (2, .int (iN (i))), (3, .int (iN (e))), (4, .int (iN (j))), (5, .int (iN (m)))] (by decide) rfl dX11_copy_30 ?_
      refine x_aload C 1 rfl dX11_copy_32 ?_
      refine x_get C in_X11_copy_X5 (2 + 2 * d.toNat) (WX_so _ _ _ _ _ _ _ (show d.toNat < 8 by omega)) rfl 0 (by decide) (List.mem_of_getElem? (i := 2) rfl) rfl (v := .int (iN (Sh.hd (F d.toNat)))) rfl dX11_copy_34 ?_
      refine x_if_eq C 48 (by decide) (by omega) dX11_copy_37 (fun c_37 => ?_) (fun c_37 => ?_)
      · refine x_bipush C (-11) (by decide) dX11_copy_48 ?_
        exact hret _ _ _ _ dX11_copy_50 rfl (Or.inr ⟨(by omega), (by omega), ⟨(Ct.wa N), (Ct.wa P), _, _, rfl⟩⟩)
      · refine x_aload C 0 rfl dX11_copy_40 ?_
        refine x_get C in_X11_copy_X5 (2 + 2 * e.toNat) (WX_so _ _ _ _ _ _ _ (show e.toNat < 8 by omega)) rfl 0 (by decide) (List.mem_of_getElem? (i := 2) rfl) rfl (v := .int (iN (Sh.hd (F e.toNat)))) rfl dX11_copy_42 ?_
        refine x_if_ne C 51 (by decide) (by omega) dX11_copy_45 (fun c_45 => ?_) (fun c_45 => ?_)
        · refine x_aload C 1 rfl dX11_copy_51 ?_
          refine x_get C in_X11_copy_X5 (2 + 2 * d.toNat) (WX_so _ _ _ _ _ _ _ (show d.toNat < 8 by omega)) rfl 0 (by decide) (List.mem_of_getElem? (i := 2) rfl) rfl (v := .int (iN (Sh.hd (F d.toNat)))) rfl dX11_copy_53 ?_
          refine x_iconst (v := 0) C dX11_copy_56 ?_
          refine x_icmp_ne C 82 (by decide) (by omega) dX11_copy_57 (fun c_57 => ?_) (fun c_57 => ?_)
          · refine x_bipush C (-12) (by decide) dX11_copy_82 ?_
            exact hret _ _ _ _ dX11_copy_84 rfl (Or.inr ⟨(by omega), (by omega), ⟨(Ct.wa N), (Ct.wa P), _, _, rfl⟩⟩)
          · refine x_aload C 0 rfl dX11_copy_60 ?_
            refine x_get C in_X11_copy_X5 (2 + 2 * e.toNat) (WX_so _ _ _ _ _ _ _ (show e.toNat < 8 by omega)) rfl 0 (by decide) (List.mem_of_getElem? (i := 2) rfl) rfl (v := .int (iN (Sh.hd (F e.toNat)))) rfl dX11_copy_62 ?_
            refine x_iconst (v := 0) C dX11_copy_65 ?_
            refine x_icmp_ne C 82 (by decide) (by omega) dX11_copy_66 (fun c_66 => ?_) (fun c_66 => ?_)
            · refine x_bipush C (-12) (by decide) dX11_copy_82 ?_
              exact hret _ _ _ _ dX11_copy_84 rfl (Or.inr ⟨(by omega), (by omega), ⟨(Ct.wa N), (Ct.wa P), _, _, rfl⟩⟩)
            · refine x_aload C 1 rfl dX11_copy_69 ?_
              refine x_get C in_X11_copy_X5 (2 + 2 * d.toNat) (WX_so _ _ _ _ _ _ _ (show d.toNat < 8 by omega)) rfl 3 (by decide) (List.mem_of_getElem? (i := 3) rfl) rfl (v := .int (iN (Sh.so (F d.toNat)))) rfl dX11_copy_71 ?_
              refine x_aload C 0 rfl dX11_copy_74 ?_
              refine x_get C in_X11_copy_X5 (2 + 2 * e.toNat) (WX_so _ _ _ _ _ _ _ (show e.toNat < 8 by omega)) rfl 3 (by decide) (List.mem_of_getElem? (i := 3) rfl) rfl (v := .int (iN (Sh.so (F e.toNat)))) rfl dX11_copy_76 ?_
              refine x_icmp_eq C 85 (by decide) (by omega) dX11_copy_79 (fun c_79 => ?_) (fun c_79 => ?_)
              · refine x_aload C 1 rfl dX11_copy_85 ?_
                refine x_iload_n C 4 rfl rfl dX11_copy_87 ?_
                refine x_iload C 7 rfl dX11_copy_88 ?_
                refine x_V_I C (As := [.int (iN (i)), .int (iN (m))]) (rest := []) 2 (2 + 2 * d.toNat) (WX_so _ _ _ _ _ _ _ (show d.toNat < 8 by omega)) rfl gX11_copy_X5_hasPlaces rfl (MI.shr b F N M P hp sd d.toNat (show d.toNat < 8 by omega) (fun r => r = (bz ((0 ≤ m ∧ m ≤ Sh.sz (F d.toNat)) ∧ 0 ≤ i ∧ i ≤ Sh.sz (F d.toNat) - m))) (c_X5_hasPlaces _ _ (saD b d.toNat) (F d.toNat) (hF d.toNat (by omega)) (i) (m) (by omega) (by omega)) (fun r w h => ⟨h.1, h.2⟩)) rfl ok_X5_hasPlaces rfl rfl rfl rfl dX11_copy_90 (fun r w1 hp => ?_)
                obtain ⟨rfl, rfl⟩ := hp
                refine x_ifeq_bz C 108 (by decide) dX11_copy_93 (fun c_93 => ?_) (fun c_93 => ?_)
                · refine x_bipush C (-13) (by decide) dX11_copy_108 ?_
                  exact hret _ _ _ _ dX11_copy_110 rfl (Or.inr ⟨(by omega), (by omega), ⟨(Ct.wa N), (Ct.wa P), _, _, rfl⟩⟩)
                · refine x_aload C 0 rfl dX11_copy_96 ?_
                  refine x_iload C 6 rfl dX11_copy_98 ?_
                  refine x_iload C 7 rfl dX11_copy_100 ?_
                  refine x_V_I C (As := [.int (iN (j)), .int (iN (m))]) (rest := []) 2 (2 + 2 * e.toNat) (WX_so _ _ _ _ _ _ _ (show e.toNat < 8 by omega)) rfl gX11_copy_X5_hasPlaces rfl (MI.shr b F N M P hp sd e.toNat (show e.toNat < 8 by omega) (fun r => r = (bz ((0 ≤ m ∧ m ≤ Sh.sz (F e.toNat)) ∧ 0 ≤ j ∧ j ≤ Sh.sz (F e.toNat) - m))) (c_X5_hasPlaces _ _ (saD b e.toNat) (F e.toNat) (hF e.toNat (by omega)) (j) (m) (by omega) (by omega)) (fun r w h => ⟨h.1, h.2⟩)) rfl ok_X5_hasPlaces rfl rfl rfl rfl dX11_copy_102 (fun r w1 hp => ?_)
                  obtain ⟨rfl, rfl⟩ := hp
                  refine x_ifne_bz C 111 (by decide) dX11_copy_105 (fun c_105 => ?_) (fun c_105 => ?_)
                  · refine x_aload C 1 rfl dX11_copy_111 ?_
                    refine x_get C in_X11_copy_X5 (2 + 2 * d.toNat) (WX_so _ _ _ _ _ _ _ (show d.toNat < 8 by omega)) rfl 5 (by decide) (List.mem_of_getElem? (i := 4) rfl) rfl (v := .ref (b (3 + 2 * d.toNat))) rfl dX11_copy_113 ?_
                    refine x_iload_n C 4 rfl rfl dX11_copy_116 ?_
                    refine x_aload C 0 rfl dX11_copy_117 ?_
                    refine x_get C in_X11_copy_X5 (2 + 2 * e.toNat) (WX_so _ _ _ _ _ _ _ (show e.toNat < 8 by omega)) rfl 5 (by decide) (List.mem_of_getElem? (i := 4) rfl) rfl (v := .ref (b (3 + 2 * e.toNat))) rfl dX11_copy_119 ?_
                    refine x_iload C 6 rfl dX11_copy_122 ?_
                    refine x_iload C 7 rfl dX11_copy_124 ?_
                    refine x_copyI C (f := (Sh.va (F d.toNat))) (g := (Sh.va (F e.toNat))) (List.mem_of_getElem? (i := 5) rfl) (List.mem_of_getElem? (i := 6) rfl) (List.mem_of_getElem? (i := 7) rfl) (List.mem_of_getElem? (i := 8) rfl) (3 + 2 * d.toNat) (3 + 2 * e.toNat) (WX_sv _ _ _ _ _ _ _ (show d.toNat < 8 by omega)) (WX_sv _ _ _ _ _ _ _ (show e.toNat < 8 by omega)) (by omega) ⟨rfl, rfl⟩ rfl (WX X.γ b (upF F e.toNat (Sh.set_va (F e.toNat) (cpz (Sh.va (F d.toNat)) (Sh.va (F e.toNat)) i j m))) N M P hp sd) (WX_setv _ _ _ _ _ _ _ (show e.toNat < 8 by omega) _) dX11_copy_126 ?_
                    refine x_iload C 7 rfl dX11_copy_129 ?_
                    exact hret _ _ _ _ dX11_copy_131 rfl (Or.inl ⟨(by omega), rfl, ⟨(Ct.wa N), (Ct.wa P), _, _, rfl⟩⟩)
                  · refine x_bipush C (-13) (by decide) dX11_copy_108 ?_
                    exact hret _ _ _ _ dX11_copy_110 rfl (Or.inr ⟨(by omega), (by omega), ⟨(Ct.wa N), (Ct.wa P), _, _, rfl⟩⟩)
              · refine x_bipush C (-12) (by decide) dX11_copy_82 ?_
                exact hret _ _ _ _ dX11_copy_84 rfl (Or.inr ⟨(by omega), (by omega), ⟨(Ct.wa N), (Ct.wa P), _, _, rfl⟩⟩)
        · refine x_bipush C (-11) (by decide) dX11_copy_48 ?_
          exact hret _ _ _ _ dX11_copy_50 rfl (Or.inr ⟨(by omega), (by omega), ⟨(Ct.wa N), (Ct.wa P), _, _, rfl⟩⟩)
    · refine x_iconst (v := 0) C dX11_copy_14 ?_
      exact hret _ _ _ _ dX11_copy_15 rfl (Or.inr ⟨(by omega), (by omega), ⟨(Ct.wa N), (Ct.wa P), _, _, rfl⟩⟩)
end HXGag
