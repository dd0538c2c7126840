section HFOG
theorem in_X12_fog_X12 : ∀ w ∈ u_ws RX12 TX12 34, w ∈ wsX12_fog := by decide +kernel
theorem ok_X12_fog : okY yX12_fog 5 := by decide +kernel
def rmX12_fog : Room := { frames := 6, cells := 0, slots := 0, locals := 133 }
set_option maxRecDepth 100000 in
set_option maxHeartbeats 400000 in
theorem c_X12_fog (l : Launch) (γ : GX) (a : Nat → Nat) (mh : Int → Int) (mn : Int) (mkd : Int → Int) (mfg : Int → Int) (mag : Int → Int) (mpo : Int → Int) (mwy : Int → Int) (mdy : Int) (mhw : Int → Int) (mkk : Int → Int) (mkf : Int → Int) (mrs : Int → Int) (mrm : Int → Int) (mrw : Int → Int) (mth : Int) (mgr : Int → Int) (mwa : Int → Int) (mre : Int) (mpl : Int) (mib : Int) (msn : Int) (mpn : Int → Int) (mlo : Int → Int) (mtl : Int → Int) (mke : Int → Int) (mim : Int → Int) (mhi : Int) (mp0 : Int) (mtk : Int) (mki : Value) (mun : Int → Int) (msd : Int) (mbe : Int → Int) (hM : WFm mn mh mkd mfg mag mpo mwy mhw mkk mkf mrs mrm mrw) (i : Int) (c : Int) (n : Int) (t : Int) (w : Int) (h0_ : -2147483648 ≤ i ∧ i < 2147483648) (h1_ : -2147483648 ≤ c ∧ c < 2147483648) (h2_ : -2147483648 ≤ n ∧ n < 2147483648) (h3_ : -2147483648 ≤ t ∧ t < 2147483648) (h4_ : -2147483648 ≤ w ∧ w < 2147483648) : MJ l γ yX12_fog wsX12_fog rmX12_fog [.ref (a 0), .int (iN (i)), .int (iN (c)), .int (iN (n)), .int (iN (t)), .int (iN (w))] (WM γ a mh mn mkd mfg mag mpo mwy mdy mhw mkk mkf mrs mrm mrw mth 0 mgr mwa mre mpl mib msn mpn mlo mtl mke mim mhi mp0 mtk mki mun msd mbe) (fun r_ w_ => r_ = q_fog (Lc mh mn mdy mkd mfg mag mpo mwy) i c n t w ∧ Wk γ a mh mn mkd mfg mag mpo mwy mdy mhw mkk mkf mrs mrm mrw 0 mim mhi w_) 0 0 := by
  refine MJ.of (cc := cX12_fog) (maxL := 14) RX12 rfl (by decide +kernel) rfl (Nat.le_of_ble_eq_true rfl) ?_
  intro X C hγ hl hnm hret
  subst hγ
  have hMn := WFm.n hM
  show Wx X 0 0 (WM X.γ a mh mn mkd mfg mag mpo mwy mdy mhw mkk mkf mrs mrm mrw mth 0 mgr mwa mre mpl mib msn mpn mlo mtl mke mim mhi mp0 mtk mki mun msd mbe) 0 [(0, .ref (a 0)), (1, .int (iN (i))), (2, .int (iN (c))), (3, .int (iN (n))), (4, .int (iN (t))), (5, .int (iN (w)))] []
  refine x_aload_n C 0 rfl rfl dX12_fog_0 ?_
  refine x_iconst (v := 0) C dX12_fog_1 ?_
  refine x_put C in_X12_fog_X12 tyX12 tyX12_ok nmX12 0 rfl rfl 14 (by decide) (List.mem_of_getElem? (i := 1) rfl) rfl rfl rfl rfl rfl (Nat.le_of_ble_eq_true rfl) (WM X.γ a mh mn mkd mfg mag mpo mwy mdy mhw mkk mkf mrs mrm mrw 0 0 mgr mwa mre mpl mib msn mpn mlo mtl mke mim mhi mp0 mtk mki mun msd mbe) rfl dX12_fog_2 ?_
  refine x_aload_n C 0 rfl rfl dX12_fog_5 ?_
  refine x_iload_n C 1 rfl rfl dX12_fog_6 ?_
  refine x_V_I C (As := [.int (iN (i))]) (rest := []) 1 0 rfl rfl gX12_fog_X12_isOne rfl (c_X12_isOne _ _ a mh mn mkd mfg mag mpo mwy mdy mhw mkk mkf mrs mrm mrw 0 0 mgr mwa mre mpl mib msn mpn mlo mtl mke mim mhi mp0 mtk mki mun msd mbe hM (i) (by omega)) rfl ok_X12_isOne rfl rfl rfl rfl dX12_fog_7 (fun r w1 hp => ?_)
  obtain ⟨rfl, rfl⟩ := hp
  refine x_ifeq_bz C 58 (by decide) dX12_fog_10 (fun c_10 => ?_) (fun c_10 => ?_)
  · refine x_ldc2 C (1000000001) (List.mem_of_getElem? (i := 5) rfl) (by decide) dX12_fog_58 ?_
    exact hret _ _ _ _ dX12_fog_61 ⟨(by unfold q_fog; rw [if_neg (show ¬ ((q_one (Lc mh mn mdy mkd mfg mag mpo mwy) i ∧ q_cell c) ∧ (0 ≤ n ∧ n ≤ 7) ∧ (2 ≤ t ∧ t ≤ 20) ∧ 0 ≤ w ∧ w ≤ 1) from (show ¬ (((0 ≤ i ∧ i ≤ mn - 1) ∧ 0 ≤ c ∧ c ≤ 14) ∧ (0 ≤ n ∧ n ≤ 7) ∧ (2 ≤ t ∧ t ≤ 20) ∧ 0 ≤ w ∧ w ≤ 1) by omega))]), Wk.mk⟩
  · refine x_iload_n C 2 rfl rfl dX12_fog_13 ?_
    refine x_S_I C (As := [.int (iN (c))]) (rest := []) 1 gX12_fog_X12_isCell (c_X12_isCell _ _ (WM X.γ a mh mn mkd mfg mag mpo mwy mdy mhw mkk mkf mrs mrm mrw 0 0 mgr mwa mre mpl mib msn mpn mlo mtl mke mim mhi mp0 mtk mki mun msd mbe) (c) (by omega)) rfl ok_X12_isCell rfl rfl rfl rfl dX12_fog_14 (fun r w1 hp => ?_)
    obtain ⟨rfl, rfl⟩ := hp
    refine x_ifeq_bz C 58 (by decide) dX12_fog_17 (fun c_17 => ?_) (fun c_17 => ?_)
    · refine x_ldc2 C (1000000001) (List.mem_of_getElem? (i := 5) rfl) (by decide) dX12_fog_58 ?_
      exact hret _ _ _ _ dX12_fog_61 ⟨(by unfold q_fog; rw [if_neg (show ¬ ((q_one (Lc mh mn mdy mkd mfg mag mpo mwy) i ∧ q_cell c) ∧ (0 ≤ n ∧ n ≤ 7) ∧ (2 ≤ t ∧ t ≤ 20) ∧ 0 ≤ w ∧ w ≤ 1) from (show ¬ (((0 ≤ i ∧ i ≤ mn - 1) ∧ 0 ≤ c ∧ c ≤ 14) ∧ (0 ≤ n ∧ n ≤ 7) ∧ (2 ≤ t ∧ t ≤ 20) ∧ 0 ≤ w ∧ w ≤ 1) by omega))]), Wk.mk⟩
    · refine x_iload_n C 3 rfl rfl dX12_fog_20 ?_
      refine x_i2l C (by omega) dX12_fog_21 ?_
      refine x_lconst C 0 rfl dX12_fog_22 ?_
      refine x_ldc2 C (7) (List.mem_of_getElem? (i := 2) rfl) (by decide) dX12_fog_23 ?_
      refine x_S_I C (As := [.long (jN (n)), .long (jN (0)), .long (jN (7))]) (rest := []) 3 gX12_fog_X12_in (c_X12_in _ _ (WM X.γ a mh mn mkd mfg mag mpo mwy mdy mhw mkk mkf mrs mrm mrw 0 0 mgr mwa mre mpl mib msn mpn mlo mtl mke mim mhi mp0 mtk mki mun msd mbe) (n) (0) (7) (by omega) (by omega) (by omega)) rfl ok_X12_in rfl rfl rfl rfl dX12_fog_26 (fun r w1 hp => ?_)
      obtain ⟨rfl, rfl⟩ := hp
      refine x_ifeq_bz C 58 (by decide) dX12_fog_29 (fun c_29 => ?_) (fun c_29 => ?_)
      · refine x_ldc2 C (1000000001) (List.mem_of_getElem? (i := 5) rfl) (by decide) dX12_fog_58 ?_
        exact hret _ _ _ _ dX12_fog_61 ⟨(by unfold q_fog; rw [if_neg (show ¬ ((q_one (Lc mh mn mdy mkd mfg mag mpo mwy) i ∧ q_cell c) ∧ (0 ≤ n ∧ n ≤ 7) ∧ (2 ≤ t ∧ t ≤ 20) ∧ 0 ≤ w ∧ w ≤ 1) from (show ¬ (((0 ≤ i ∧ i ≤ mn - 1) ∧ 0 ≤ c ∧ c ≤ 14) ∧ (0 ≤ n ∧ n ≤ 7) ∧ (2 ≤ t ∧ t ≤ 20) ∧ 0 ≤ w ∧ w ≤ 1) by omega))]), Wk.mk⟩
      · refine x_iload C 4 rfl dX12_fog_32 ?_
        refine x_i2l C (by omega) dX12_fog_34 ?_
        refine x_ldc2 C (2) (List.mem_of_getElem? (i := 3) rfl) (by decide) dX12_fog_35 ?_
        refine x_ldc2 C (20) (List.mem_of_getElem? (i := 4) rfl) (by decide) dX12_fog_38 ?_
        refine x_S_I C (As := [.long (jN (t)), .long (jN (2)), .long (jN (20))]) (rest := []) 3 gX12_fog_X12_in (c_X12_in _ _ (WM X.γ a mh mn mkd mfg mag mpo mwy mdy mhw mkk mkf mrs mrm mrw 0 0 mgr mwa mre mpl mib msn mpn mlo mtl mke mim mhi mp0 mtk mki mun msd mbe) (t) (2) (20) (by omega) (by omega) (by omega)) rfl ok_X12_in rfl rfl rfl rfl dX12_fog_41 (fun r w1 hp => ?_)
        obtain ⟨rfl, rfl⟩ := hp
        refine x_ifeq_bz C 58 (by decide) dX12_fog_44 (fun c_44 => ?_) (fun c_44 => ?_)
        · refine x_ldc2 C (1000000001) (List.mem_of_getElem? (i := 5) rfl) (by decide) dX12_fog_58 ?_
          exact hret _ _ _ _ dX12_fog_61 ⟨(by unfold q_fog; rw [if_neg (show ¬ ((q_one (Lc mh mn mdy mkd mfg mag mpo mwy) i ∧ q_cell c) ∧ (0 ≤ n ∧ n ≤ 7) ∧ (2 ≤ t ∧ t ≤ 20) ∧ 0 ≤ w ∧ w ≤ 1) from (show ¬ (((0 ≤ i ∧ i ≤ mn - 1) ∧ 0 ≤ c ∧ c ≤ 14) ∧ (0 ≤ n ∧ n ≤ 7) ∧ (2 ≤ t ∧ t ≤ 20) ∧ 0 ≤ w ∧ w ≤ 1) by omega))]), Wk.mk⟩
        · refine x_iload C 5 rfl dX12_fog_47 ?_
          refine x_i2l C (by omega) dX12_fog_49 ?_
          refine x_lconst C 0 rfl dX12_fog_50 ?_
          refine x_lconst C 1 rfl dX12_fog_51 ?_
          refine x_S_I C (As := [.long (jN (w)), .long (jN (0)), .long (jN (1))]) (rest := []) 3 gX12_fog_X12_in (c_X12_in _ _ (WM X.γ a mh mn mkd mfg mag mpo mwy mdy mhw mkk mkf mrs mrm mrw 0 0 mgr mwa mre mpl mib msn mpn mlo mtl mke mim mhi mp0 mtk mki mun msd mbe) (w) (0) (1) (by omega) (by omega) (by omega)) rfl ok_X12_in rfl rfl rfl rfl dX12_fog_52 (fun r w1 hp => ?_)
          obtain ⟨rfl, rfl⟩ := hp
          refine x_ifne_bz C 62 (by decide) dX12_fog_55 (fun c_55 => ?_) (fun c_55 => ?_)
          · refine x_lconst C 0 rfl dX12_fog_62 ?_
            refine x_lstore C [(6, .long (jN (0))), (0, .ref (a 0)), (1, .int (iN (i))), (2, .int (iN (c))), (3, .int (iN (n))), (4, .int (iN (t))), (5, .int (iN (w)))] (by decide) rfl dX12_fog_63 ?_
            refine x_lconst C 1 rfl dX12_fog_65 ?_
            refine x_lstore C [(8, .long (jN (1))), (6, .long (jN (0))), (0, .ref (a 0)), (1, .int (iN (i))), (2, .int (iN (c))), (3, .int (iN (n))), (4, .int (iN (t))), (5, .int (iN (w)))] (by decide) rfl dX12_fog_66 ?_
            refine x_iconst (v := 0) C dX12_fog_68 ?_
            refine x_istore C [(10, .int (iN (0))), (8, .long (jN (1))), (6, .long (jN (0))), (0, .ref (a 0)), (1, .int (iN (i))), (2, .int (iN (c))), (3, .int (iN (n))), (4, .int (iN (t))), (5, .int (iN (w)))] (by decide) rfl dX12_fog_69 ?_
            have LP71 : ∀ (f : Nat) (k : Nat) (v10_71 : Int) (v8_71 : Int), (n.toNat - k < f) → (k ≤ n.toNat) → (((k : Int)) = v10_71) → (v8_71 = (t ^ k)) → Wx X 0 0 (WM X.γ a mh mn mkd mfg mag mpo mwy mdy mhw mkk mkf mrs mrm mrw 0 0 mgr mwa mre mpl mib msn mpn mlo mtl mke mim mhi mp0 mtk mki mun msd mbe) 71 [(10, .int (iN (v10_71))), (8, .long (jN (v8_71))), (6, .long (jN (0))), (0, .ref (a 0)), (1, .int (iN (i))), (2, .int (iN (c))), (3, .int (iN (n))), (4, .int (iN (t))), (5, .int (iN (w)))] [] := by
              intro f
              induction f with
              | zero => intro k v10_71 v8_71 hf; exact absurd hf (Nat.not_lt_zero _)
              | succ f ih71 =>
                intro k v10_71 v8_71 hf hk e10_71 e8_71
                subst e10_71
                refine x_iload C 0 rfl dX12_fog_71 ?_
                refine x_iload_n C 6 rfl rfl dX12_fog_73 ?_
                refine x_icmp_ge C 91 (by decide) (by omega) dX12_fog_74 (fun c_74 => ?_) (fun c_74 => ?_)
                · refine x_aload_n C 3 rfl rfl dX12_fog_91 ?_
                  refine x_V_V C (As := []) (rest := []) 0 0 rfl rfl gX12_fog_X12_open rfl (c_X12_open _ _ a mh mn mkd mfg mag mpo mwy mdy mhw mkk mkf mrs mrm mrw 0 0 mgr mwa mre mpl mib msn mpn mlo mtl mke mim mhi mp0 mtk mki mun msd mbe) rfl ok_X12_open rfl rfl rfl rfl dX12_fog_92 (fun w1 hp => ?_)
                  obtain rfl := hp
                  refine x_iconst (v := 0) C dX12_fog_95 ?_
                  refine x_istore C [(10, .int (iN (0))), (8, .long (jN (v8_71))), (6, .long (jN (0))), (0, .ref (a 0)), (1, .int (iN (i))), (2, .int (iN (c))), (3, .int (iN (n))), (4, .int (iN (t))), (5, .int (iN (w)))] (by decide) rfl dX12_fog_96 ?_
                  have LP98 : ∀ (f : Nat) (m : Nat) (G : Int → Int) (TK : Int) (v10_98 : Int) (v6_98 : Int), (pw n - m < f) → (m ≤ pw n) → (((m : Int)) = v10_98) → (v6_98 = (fgs (Lc mh mn mdy mkd mfg mag mpo mwy) i c t n.toNat m)) → Wx X 0 0 (WM X.γ a mh mn mkd mfg mag mpo mwy mdy mhw mkk mkf mrs mrm mrw 0 0 G mwa mre mpl mib msn mpn mlo mtl (pck mh mn mdy mkd mfg mag mpo mwy) mim mhi 47 TK (.ref (a 18)) mun msd mbe) 98 [(10, .int (iN (v10_98))), (8, .long (jN (v8_71))), (6, .long (jN (v6_98))), (0, .ref (a 0)), (1, .int (iN (i))), (2, .int (iN (c))), (3, .int (iN (n))), (4, .int (iN (t))), (5, .int (iN (w)))] [] := by
                    intro f
                    induction f with
                    | zero => intro m G TK v10_98 v6_98 hf; exact absurd hf (Nat.not_lt_zero _)
                    | succ f ih98 =>
                      intro m G TK v10_98 v6_98 hf hm e10_98 e6_98
                      subst e10_98
                      have bpw := pw_b7 (n := n) (by omega)
                      have bf := fgs_b (C := (Lc mh mn mdy mkd mfg mag mpo mwy)) (i := i) (c := c) (t := t) (n := n.toNat) (by omega) (by omega) m
                      have bp8 := pow_b (t := t) (by omega) (k := k) (by omega)
                      refine x_iload C 0 rfl dX12_fog_98 ?_
                      refine x_iconst (v := 0) C dX12_fog_100 ?_
                      refine x_iload_n C 6 rfl rfl dX12_fog_101 ?_
                      refine x_ishl C ((pw n : Nat) : Int) (iN_shlp7 (by omega)) dX12_fog_102 ?_
                      refine x_icmp_ge C 190 (by decide) (by omega) dX12_fog_103 (fun c_103 => ?_) (fun c_103 => ?_)
                      · refine x_lload C 2 rfl dX12_fog_190 ?_
                        refine x_lload C 1 rfl dX12_fog_192 ?_
                        refine x_iload C 8 rfl dX12_fog_194 ?_
                        refine x_S_J C (As := [.long (jN (v6_98)), .long (jN (v8_71)), .int (iN (w))]) (rest := []) 3 gX12_fog_X12_partOf (c_X12_partOf _ _ (WM X.γ a mh mn mkd mfg mag mpo mwy mdy mhw mkk mkf mrs mrm mrw 0 0 G mwa mre mpl mib msn mpn mlo mtl (pck mh mn mdy mkd mfg mag mpo mwy) mim mhi 47 TK (.ref (a 18)) mun msd mbe) (v6_98) (v8_71) (w) (by omega) (by omega) (by omega)) rfl ok_X12_partOf rfl rfl rfl rfl dX12_fog_196 (fun r w1 hp => ?_)
                        obtain ⟨rfl, rfl⟩ := hp
                        show Wx X 0 0 (WM X.γ a mh mn mkd mfg mag mpo mwy mdy mhw mkk mkf mrs mrm mrw 0 0 G mwa mre mpl mib msn mpn mlo mtl (pck mh mn mdy mkd mfg mag mpo mwy) mim mhi 47 TK (.ref (a 18)) mun msd mbe) 199 [(10, .int (iN ((m : Int)))), (8, .long (jN (v8_71))), (6, .long (jN (v6_98))), (0, .ref (a 0)), (1, .int (iN (i))), (2, .int (iN (c))), (3, .int (iN (n))), (4, .int (iN (t))), (5, .int (iN (w)))] [.long (jN (if v6_98 = 0 then w else if w = 0 then v6_98 / (Nat.gcd v6_98.toNat v8_71.toNat : Int) else v8_71 / (Nat.gcd v6_98.toNat v8_71.toNat : Int)))]
                        exact hret _ _ _ _ dX12_fog_199 ⟨(by have hz : m = pw n := (by omega); have hy : k = n.toNat := (by omega); unfold q_fog; rw [if_pos (show (q_one (Lc mh mn mdy mkd mfg mag mpo mwy) i ∧ q_cell c) ∧ (0 ≤ n ∧ n ≤ 7) ∧ (2 ≤ t ∧ t ≤ 20) ∧ 0 ≤ w ∧ w ≤ 1 from (show ((0 ≤ i ∧ i ≤ mn - 1) ∧ 0 ≤ c ∧ c ≤ 14) ∧ (0 ≤ n ∧ n ≤ 7) ∧ (2 ≤ t ∧ t ≤ 20) ∧ 0 ≤ w ∧ w ≤ 1 by omega)), ← hz, ← hy]; rw [e6_98, e8_71, hy]; rfl), Wk.mk⟩
                      · refine x_lconst C 1 rfl dX12_fog_106 ?_
                        refine x_lstore C [(11, .long (jN (1))), (10, .int (iN ((m : Int)))), (8, .long (jN (v8_71))), (6, .long (jN (v6_98))), (0, .ref (a 0)), (1, .int (iN (i))), (2, .int (iN (c))), (3, .int (iN (n))), (4, .int (iN (t))), (5, .int (iN (w)))] (by decide) rfl dX12_fog_107 ?_
                        refine x_iconst (v := 0) C dX12_fog_109 ?_
                        refine x_istore C [(13, .int (iN (0))), (11, .long (jN (1))), (10, .int (iN ((m : Int)))), (8, .long (jN (v8_71))), (6, .long (jN (v6_98))), (0, .ref (a 0)), (1, .int (iN (i))), (2, .int (iN (c))), (3, .int (iN (n))), (4, .int (iN (t))), (5, .int (iN (w)))] (by decide) rfl dX12_fog_110 ?_
                        have LP112 : ∀ (f : Nat) (j : Nat) (q : Nat) (G2 : Int → Int) (v13_112 : Int) (v11_112 : Int), (n.toNat - j < f) → (j ≤ n.toNat) → (q = clz (m : Int) j) → (((j : Int)) = v13_112) → (v11_112 = ((t - 1) ^ q)) → Wx X 0 0 (WM X.γ a mh mn mkd mfg mag (Ct.po (Ct.days (Lc mh mn mdy mkd mfg mag mpo mwy) q)) (Ct.wy (Ct.days (Lc mh mn mdy mkd mfg mag mpo mwy) q)) (mdy + (j : Int)) mhw mkk mkf mrs mrm mrw 0 0 G2 mwa mre mpl mib msn mpn mlo mtl (pck mh mn mdy mkd mfg mag mpo mwy) mim mhi 47 TK (.ref (a 18)) mun msd mbe) 112 [(13, .int (iN (v13_112))), (11, .long (jN (v11_112))), (10, .int (iN ((m : Int)))), (8, .long (jN (v8_71))), (6, .long (jN (v6_98))), (0, .ref (a 0)), (1, .int (iN (i))), (2, .int (iN (c))), (3, .int (iN (n))), (4, .int (iN (t))), (5, .int (iN (w)))] [] := by
                          intro f
                          induction f with
                          | zero => intro j q G2 v13_112 v11_112 hf; exact absurd hf (Nat.not_lt_zero _)
                          | succ f ih112 =>
                            intro j q G2 v13_112 v11_112 hf hj hq e13_112 e11_112
                            subst e13_112
                            refine x_iload C 0 rfl dX12_fog_112 ?_
                            refine x_iload_n C 8 rfl rfl dX12_fog_114 ?_
                            refine x_icmp_ge C 159 (by decide) (by omega) dX12_fog_115 (fun c_115 => ?_) (fun c_115 => ?_)
                            · refine x_lload C 4 rfl dX12_fog_159 ?_
                              refine x_aload_n C 5 rfl rfl dX12_fog_161 ?_
                              refine x_get C in_X12_fog_X12 0 rfl rfl 5 (by decide) (List.mem_of_getElem? (i := 6) rfl) rfl (v := .ref (a 5)) rfl dX12_fog_162 ?_
                              refine x_iload_n C 6 rfl rfl dX12_fog_165 ?_
                              refine x_iaload C (f := (Ct.po (Ct.days (Lc mh mn mdy mkd mfg mag mpo mwy) q))) 5 rfl (by omega) rfl dX12_fog_166 ?_
                              have b191 := (Ct.days_wf (WFm.L hM mdy) q).po (i)
                              refine x_iload_n C 7 rfl rfl dX12_fog_167 ?_
                              have LP177 : ∀ (s0_177 : Int), (s0_177 = (if Ct.po (Ct.days (Lc mh mn mdy mkd mfg mag mpo mwy) q) i = c then v11_112 else 0)) → Wx X 0 0 (WM X.γ a mh mn mkd mfg mag (Ct.po (Ct.days (Lc mh mn mdy mkd mfg mag mpo mwy) q)) (Ct.wy (Ct.days (Lc mh mn mdy mkd mfg mag mpo mwy) q)) (mdy + (j : Int)) mhw mkk mkf mrs mrm mrw 0 0 G2 mwa mre mpl mib msn mpn mlo mtl (pck mh mn mdy mkd mfg mag mpo mwy) mim mhi 47 TK (.ref (a 18)) mun msd mbe) 177 [(13, .int (iN ((j : Int)))), (11, .long (jN (v11_112))), (10, .int (iN ((m : Int)))), (8, .long (jN (v8_71))), (6, .long (jN (v6_98))), (0, .ref (a 0)), (1, .int (iN (i))), (2, .int (iN (c))), (3, .int (iN (n))), (4, .int (iN (t))), (5, .int (iN (w)))] [.long (jN (s0_177)), .long (jN (v6_98))] := by
                                intro s0_177 es0_177
                                refine x_ladd C dX12_fog_177 ?_
                                refine x_lstore C [(6, .long (jN (v6_98 + s0_177))), (13, .int (iN ((j : Int)))), (11, .long (jN (v11_112))), (10, .int (iN ((m : Int)))), (8, .long (jN (v8_71))), (0, .ref (a 0)), (1, .int (iN (i))), (2, .int (iN (c))), (3, .int (iN (n))), (4, .int (iN (t))), (5, .int (iN (w)))] (by decide) rfl dX12_fog_178 ?_
                                refine x_aload_n C 5 rfl rfl dX12_fog_180 ?_
                                refine x_V_V C (As := []) (rest := []) 0 0 rfl rfl gX12_fog_X12_close rfl (c_X12_close _ _ a mh mn mkd mfg mag (Ct.po (Ct.days (Lc mh mn mdy mkd mfg mag mpo mwy) q)) (Ct.wy (Ct.days (Lc mh mn mdy mkd mfg mag mpo mwy) q)) (mdy + (j : Int)) mhw mkk mkf mrs mrm mrw 0 0 G2 mwa mre mpl mib msn mpn mlo mtl mim mhi 47 TK (.ref (a 18)) mun msd mbe mh mn mdy mkd mfg mag mpo mwy) rfl ok_X12_close rfl rfl rfl rfl dX12_fog_181 (fun w1 hp => ?_)
                                obtain rfl := hp
                                refine x_iinc C 3 [(10, .int (iN ((m : Int) + 1))), (6, .long (jN (v6_98 + s0_177))), (13, .int (iN ((j : Int)))), (11, .long (jN (v11_112))), (8, .long (jN (v8_71))), (0, .ref (a 0)), (1, .int (iN (i))), (2, .int (iN (c))), (3, .int (iN (n))), (4, .int (iN (t))), (5, .int (iN (w)))] rfl rfl (by decide) rfl dX12_fog_184 ?_
                                refine x_goto C 98 (by decide) dX12_fog_187 ?_
                                refine Wx.subL [0, 4, 1, 5, 6, 7, 8, 9, 10] rfl ?_
                                exact ih98 (m + 1) (G2) (0) _ _ (by omega) (by omega) (by omega) (by have hz : j = n.toNat := (by omega); subst hz; simp only [fgs]; rw [← hq, e6_98, es0_177, e11_112])
                              refine x_icmp_ne C 176 (by decide) (by omega) dX12_fog_168 (fun c_168 => ?_) (fun c_168 => ?_)
                              · refine x_lconst C 0 rfl dX12_fog_176 ?_
                                exact LP177 _ (by omega)
                              · refine x_lload C 1 rfl dX12_fog_171 ?_
                                refine x_goto C 177 (by decide) dX12_fog_173 ?_
                                exact LP177 _ (by omega)
                            · refine x_lload C 1 rfl dX12_fog_118 ?_
                              refine x_iload C 2 rfl dX12_fog_120 ?_
                              refine x_iload C 0 rfl dX12_fog_122 ?_
                              refine x_S_I C (As := [.int (iN ((m : Int))), .int (iN ((j : Int)))]) (rest := [.long (jN (v11_112))]) 2 gX12_fog_X12_hasBit (c_X12_hasBit _ _ (WM X.γ a mh mn mkd mfg mag (Ct.po (Ct.days (Lc mh mn mdy mkd mfg mag mpo mwy) q)) (Ct.wy (Ct.days (Lc mh mn mdy mkd mfg mag mpo mwy) q)) (mdy + (j : Int)) mhw mkk mkf mrs mrm mrw 0 0 G2 mwa mre mpl mib msn mpn mlo mtl (pck mh mn mdy mkd mfg mag mpo mwy) mim mhi 47 TK (.ref (a 18)) mun msd mbe) ((m : Int)) ((j : Int)) (by omega) (by omega)) rfl ok_X12_hasBit rfl rfl rfl rfl dX12_fog_124 (fun r w1 hp => ?_)
                              obtain ⟨rfl, rfl⟩ := hp
                              have LP139 : ∀ (s0_139 : Int), (s0_139 = (if btz (m : Int) (j : Int) then 1 else t - 1)) → Wx X 0 0 (WM X.γ a mh mn mkd mfg mag (Ct.po (Ct.days (Lc mh mn mdy mkd mfg mag mpo mwy) q)) (Ct.wy (Ct.days (Lc mh mn mdy mkd mfg mag mpo mwy) q)) (mdy + (j : Int)) mhw mkk mkf mrs mrm mrw 0 0 G2 mwa mre mpl mib msn mpn mlo mtl (pck mh mn mdy mkd mfg mag mpo mwy) mim mhi 47 TK (.ref (a 18)) mun msd mbe) 139 [(13, .int (iN ((j : Int)))), (11, .long (jN (v11_112))), (10, .int (iN ((m : Int)))), (8, .long (jN (v8_71))), (6, .long (jN (v6_98))), (0, .ref (a 0)), (1, .int (iN (i))), (2, .int (iN (c))), (3, .int (iN (n))), (4, .int (iN (t))), (5, .int (iN (w)))] [.long (jN (s0_139)), .long (jN (v11_112))] := by
                                intro s0_139 es0_139
                                refine x_lmul C dX12_fog_139 ?_
                                refine x_lstore C [(11, .long (jN (v11_112 * s0_139))), (13, .int (iN ((j : Int)))), (10, .int (iN ((m : Int)))), (8, .long (jN (v8_71))), (6, .long (jN (v6_98))), (0, .ref (a 0)), (1, .int (iN (i))), (2, .int (iN (c))), (3, .int (iN (n))), (4, .int (iN (t))), (5, .int (iN (w)))] (by decide) rfl dX12_fog_140 ?_
                                refine x_aload_n C 5 rfl rfl dX12_fog_142 ?_
                                refine x_iload C 2 rfl dX12_fog_143 ?_
                                refine x_iload C 1 rfl dX12_fog_145 ?_
                                refine x_S_I C (As := [.int (iN ((m : Int))), .int (iN ((j : Int)))]) (rest := [.ref (a 0)]) 2 gX12_fog_X12_hasBit (c_X12_hasBit _ _ (WM X.γ a mh mn mkd mfg mag (Ct.po (Ct.days (Lc mh mn mdy mkd mfg mag mpo mwy) q)) (Ct.wy (Ct.days (Lc mh mn mdy mkd mfg mag mpo mwy) q)) (mdy + (j : Int)) mhw mkk mkf mrs mrm mrw 0 0 G2 mwa mre mpl mib msn mpn mlo mtl (pck mh mn mdy mkd mfg mag mpo mwy) mim mhi 47 TK (.ref (a 18)) mun msd mbe) ((m : Int)) ((j : Int)) (by omega) (by omega)) rfl ok_X12_hasBit rfl rfl rfl rfl dX12_fog_147 (fun r w1 hp => ?_)
                                obtain ⟨rfl, rfl⟩ := hp
                                by_cases hb : btz ((m : Int)) ((j : Int))
                                · rw [bz_t hb]
                                  refine x_V_V C (As := [.int (iN (1))]) (rest := []) 1 0 rfl rfl gX12_fog_X12_dayBy rfl (c_X12_dayBy_1 _ _ a mh mn mkd mfg mag (Ct.po (Ct.days (Lc mh mn mdy mkd mfg mag mpo mwy) q)) (Ct.wy (Ct.days (Lc mh mn mdy mkd mfg mag mpo mwy) q)) (mdy + (j : Int)) mhw mkk mkf mrs mrm mrw 0 0 G2 mwa mre mpl mib msn mpn mlo mtl (pck mh mn mdy mkd mfg mag mpo mwy) mim mhi 47 TK (.ref (a 18)) mun msd mbe (WFm.pw hM (Ct.days_wf (WFm.L hM mdy) q).po (Ct.days_wf (WFm.L hM mdy) q).wy)) rfl ok_X12_dayBy rfl rfl rfl rfl dX12_fog_150 (fun w1 hp => ?_)
                                  obtain rfl := hp
                                  refine x_iinc C 1 [(13, .int (iN ((j : Int) + 1))), (11, .long (jN (v11_112 * s0_139))), (10, .int (iN ((m : Int)))), (8, .long (jN (v8_71))), (6, .long (jN (v6_98))), (0, .ref (a 0)), (1, .int (iN (i))), (2, .int (iN (c))), (3, .int (iN (n))), (4, .int (iN (t))), (5, .int (iN (w)))] rfl rfl (by decide) rfl dX12_fog_153 ?_
                                  refine x_goto C 112 (by decide) dX12_fog_156 ?_
                                  refine Wx.eqW (ws' := (WM X.γ a mh mn mkd mfg mag (Ct.po (Ct.days (Lc mh mn mdy mkd mfg mag mpo mwy) q)) (Ct.wy (Ct.days (Lc mh mn mdy mkd mfg mag mpo mwy) q)) (mdy + ((j + 1 : Nat) : Int)) mhw mkk mkf mrs mrm mrw 0 0 G2 mwa mre mpl mib msn mpn mlo mtl (pck mh mn mdy mkd mfg mag mpo mwy) mim mhi 47 TK (.ref (a 18)) mun msd mbe)) (by rw [show mdy + ((j + 1 : Nat) : Int) = mdy + (j : Int) + 1 by omega]) ?_
                                  exact ih112 (j + 1) (q) (G2) _ _ (by omega) (by omega) (by rw [hq]; exact (if_pos hb).symm) (by omega) (by rw [es0_139, if_pos hb, Int.mul_one]; exact e11_112)
                                · rw [bz_f hb]
                                  refine x_V_V C (As := [.int (iN (0))]) (rest := []) 1 0 rfl rfl gX12_fog_X12_dayBy rfl (c_X12_dayBy_0 _ _ a mh mn mkd mfg mag (Ct.po (Ct.days (Lc mh mn mdy mkd mfg mag mpo mwy) q)) (Ct.wy (Ct.days (Lc mh mn mdy mkd mfg mag mpo mwy) q)) (mdy + (j : Int)) mhw mkk mkf mrs mrm mrw 0 G2 mwa mre mpl mib msn mpn mlo mtl (pck mh mn mdy mkd mfg mag mpo mwy) mim mhi 47 TK (.ref (a 18)) mun msd mbe (WFm.pw hM (Ct.days_wf (WFm.L hM mdy) q).po (Ct.days_wf (WFm.L hM mdy) q).wy)) rfl ok_X12_dayBy rfl rfl rfl rfl dX12_fog_150 (fun w1 hp => ?_)
                                  obtain ⟨Gb192, rfl⟩ := hp
                                  refine x_iinc C 1 [(13, .int (iN ((j : Int) + 1))), (11, .long (jN (v11_112 * s0_139))), (10, .int (iN ((m : Int)))), (8, .long (jN (v8_71))), (6, .long (jN (v6_98))), (0, .ref (a 0)), (1, .int (iN (i))), (2, .int (iN (c))), (3, .int (iN (n))), (4, .int (iN (t))), (5, .int (iN (w)))] rfl rfl (by decide) rfl dX12_fog_153 ?_
                                  refine x_goto C 112 (by decide) dX12_fog_156 ?_
                                  have hL : (Lc mh mn (Ct.dy (Ct.days (Lc mh mn mdy mkd mfg mag mpo mwy) q)) mkd mfg mag (Ct.po (Ct.days (Lc mh mn mdy mkd mfg mag mpo mwy) q)) (Ct.wy (Ct.days (Lc mh mn mdy mkd mfg mag mpo mwy) q))) = (Ct.days (Lc mh mn mdy mkd mfg mag mpo mwy) q) := (Ct.days_same (Lc mh mn mdy mkd mfg mag mpo mwy) q).symm
                                  have hD : Ct.D (Lc mh mn (mdy + (j : Int)) mkd mfg mag (Ct.po (Ct.days (Lc mh mn mdy mkd mfg mag mpo mwy) q)) (Ct.wy (Ct.days (Lc mh mn mdy mkd mfg mag mpo mwy) q))) mn.toNat = Ct.D (Ct.days (Lc mh mn mdy mkd mfg mag mpo mwy) q) mn.toNat := (show Ct.D (Lc mh mn (mdy + (j : Int)) mkd mfg mag (Ct.po (Ct.days (Lc mh mn mdy mkd mfg mag mpo mwy) q)) (Ct.wy (Ct.days (Lc mh mn mdy mkd mfg mag mpo mwy) q))) mn.toNat = Ct.D (Lc mh mn (Ct.dy (Ct.days (Lc mh mn mdy mkd mfg mag mpo mwy) q)) mkd mfg mag (Ct.po (Ct.days (Lc mh mn mdy mkd mfg mag mpo mwy) q)) (Ct.wy (Ct.days (Lc mh mn mdy mkd mfg mag mpo mwy) q))) mn.toNat from rfl).trans (congrArg (fun Z => Ct.D Z mn.toNat) hL)
                                  refine Wx.eqW (ws' := (WM X.γ a mh mn mkd mfg mag (Ct.po (Ct.days (Lc mh mn mdy mkd mfg mag mpo mwy) (q + 1))) (Ct.wy (Ct.days (Lc mh mn mdy mkd mfg mag mpo mwy) (q + 1))) (mdy + ((j + 1 : Nat) : Int)) mhw mkk mkf mrs mrm mrw 0 0 Gb192 mwa mre mpl mib msn mpn mlo mtl (pck mh mn mdy mkd mfg mag mpo mwy) mim mhi 47 TK (.ref (a 18)) mun msd mbe)) (by obtain ⟨e1, e2, e3⟩ := Ct.days_s (Lc mh mn mdy mkd mfg mag mpo mwy) q; rw [hD, e1, e2, show mdy + ((j + 1 : Nat) : Int) = mdy + (j : Int) + 1 by omega]; try rfl) ?_
                                  exact ih112 (j + 1) (q + 1) (Gb192) _ _ (by omega) (by omega) (by rw [hq]; exact (if_neg hb).symm) (by omega) (by rw [es0_139, if_neg hb, e11_112, Int.pow_succ])
                              refine x_ifeq_bz C 134 (by decide) dX12_fog_127 (fun c_127 => ?_) (fun c_127 => ?_)
                              · refine x_iload C 9 rfl dX12_fog_134 ?_
                                refine x_iconst (v := 0) C dX12_fog_136 ?_
                                refine x_isub C dX12_fog_137 ?_
                                refine x_i2l C (by omega) dX12_fog_138 ?_
                                exact LP139 _ (by rw [if_neg c_127])
                              · refine x_lconst C 1 rfl dX12_fog_130 ?_
                                refine x_goto C 139 (by decide) dX12_fog_131 ?_
                                exact LP139 _ (by rw [if_pos c_127])
                        refine Wx.eqW (ws' := (WM X.γ a mh mn mkd mfg mag (Ct.po (Ct.days (Lc mh mn mdy mkd mfg mag mpo mwy) 0)) (Ct.wy (Ct.days (Lc mh mn mdy mkd mfg mag mpo mwy) 0)) (mdy + ((0 : Nat) : Int)) mhw mkk mkf mrs mrm mrw 0 0 G mwa mre mpl mib msn mpn mlo mtl (pck mh mn mdy mkd mfg mag mpo mwy) mim mhi 47 TK (.ref (a 18)) mun msd mbe)) (by rw [show mdy + ((0 : Nat) : Int) = mdy by omega]; try rfl) ?_
                        exact LP112 ((n.toNat - (0)) + 1) (0) (0) (G) _ _ (by omega) (by omega) (rfl) (by omega) (by simp)
                  exact LP98 ((pw n - (0)) + 1) (0) (mgr) (1) _ _ (by omega) (by omega) (by omega) (rfl)
                · refine x_lload C 1 rfl dX12_fog_77 ?_
                  refine x_iload C 7 rfl dX12_fog_79 ?_
                  refine x_i2l C (by omega) dX12_fog_81 ?_
                  refine x_lmul C dX12_fog_82 ?_
                  refine x_lstore C [(8, .long (jN (v8_71 * t))), (10, .int (iN ((k : Int)))), (6, .long (jN (0))), (0, .ref (a 0)), (1, .int (iN (i))), (2, .int (iN (c))), (3, .int (iN (n))), (4, .int (iN (t))), (5, .int (iN (w)))] (by decide) rfl dX12_fog_83 ?_
                  refine x_iinc C 1 [(10, .int (iN ((k : Int) + 1))), (8, .long (jN (v8_71 * t))), (6, .long (jN (0))), (0, .ref (a 0)), (1, .int (iN (i))), (2, .int (iN (c))), (3, .int (iN (n))), (4, .int (iN (t))), (5, .int (iN (w)))] rfl rfl (by decide) rfl dX12_fog_85 ?_
                  refine x_goto C 71 (by decide) dX12_fog_88 ?_
                  exact ih71 (k + 1) _ _ (by omega) (by omega) (by omega) (by rw [Int.pow_succ, e8_71])
            exact LP71 ((n.toNat - (0)) + 1) (0) _ _ (by omega) (by omega) (by omega) (by simp)
          · refine x_ldc2 C (1000000001) (List.mem_of_getElem? (i := 5) rfl) (by decide) dX12_fog_58 ?_
            exact hret _ _ _ _ dX12_fog_61 ⟨(by unfold q_fog; rw [if_neg (show ¬ ((q_one (Lc mh mn mdy mkd mfg mag mpo mwy) i ∧ q_cell c) ∧ (0 ≤ n ∧ n ≤ 7) ∧ (2 ≤ t ∧ t ≤ 20) ∧ 0 ≤ w ∧ w ≤ 1) from (show ¬ (((0 ≤ i ∧ i ≤ mn - 1) ∧ 0 ≤ c ∧ c ≤ 14) ∧ (0 ≤ n ∧ n ≤ 7) ∧ (2 ≤ t ∧ t ≤ 20) ∧ 0 ≤ w ∧ w ≤ 1) by omega))]), Wk.mk⟩
end HFOG
