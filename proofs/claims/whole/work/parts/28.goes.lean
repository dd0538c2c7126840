section HGOE
theorem in_X12_reached_X12 : ∀ w ∈ u_ws RX12 TX12 34, w ∈ wsX12_reached := by decide +kernel
theorem ok_X12_reached : okY yX12_reached 4 := by decide +kernel
def rmX12_reached : Room := { frames := 4, cells := 0, slots := 0, locals := 90 }
set_option maxRecDepth 100000 in
set_option maxHeartbeats 400000 in
theorem c_X12_reached (l : Launch) (γ : GX) (a : Nat → Nat) (mh : Int → Int) (mn : Int) (mkd : Int → Int) (mfg : Int → Int) (mag : Int → Int) (mpo : Int → Int) (mwy : Int → Int) (mdy : Int) (mhw : Int → Int) (mkk : Int → Int) (mkf : Int → Int) (mrs : Int → Int) (mrm : Int → Int) (mrw : Int → Int) (mth : Int) (mgr : Int → Int) (mwa : Int → Int) (mre : Int) (mpl : Int) (mib : Int) (msn : Int) (mpn : Int → Int) (mlo : Int → Int) (mtl : Int → Int) (mke : Int → Int) (mim : Int → Int) (mhi : Int) (mp0 : Int) (mtk : Int) (mki : Value) (mun : Int → Int) (msd : Int) (mbe : Int → Int) (hM : WFm mn mh mkd mfg mag mpo mwy mhw mkk mkf mrs mrm mrw) (i : Int) (al : Int) (b : Int) (st : Int) (h0_ : 0 ≤ i ∧ i ≤ mn - 1) (h1_ : 0 ≤ al ∧ al < 2147483648) (h2_ : b = 1 ∨ b = -1) (h3_ : 0 ≤ st ∧ st ≤ 14) : MI l γ yX12_reached wsX12_reached rmX12_reached [.ref (a 0), .int (iN (i)), .int (iN (al)), .int (iN (b)), .int (iN (st))] (WM γ a mh mn mkd mfg mag mpo mwy mdy mhw mkk mkf mrs mrm mrw mth 0 mgr mwa mre mpl mib msn mpn mlo mtl mke mim mhi mp0 mtk mki mun msd mbe) (fun r_ w_ => ∃ G, r_ = Ct.rc (Lc mh mn mdy mkd mfg mag mpo mwy) i al st b 15 mpo ∧ w_ = (WM γ a mh mn mkd mfg mag mpo mwy mdy mhw mkk mkf mrs mrm mrw mth 0 G mwa mre mpl mib msn mpn mlo mtl (pck mh mn mdy mkd mfg mag mpo mwy) mim mhi 47 0 (.ref (a 18)) mun msd mbe)) 0 0 := by
  refine MI.of (cc := cX12_reached) (maxL := 7) (rt := .int) RX12 rfl (by decide +kernel) rfl (Nat.le_of_ble_eq_true rfl) ?_
  intro X C hγ hl hnm hret
  subst hγ
  have hMn := WFm.n hM
  show Wx X 0 0 (WM X.γ a mh mn mkd mfg mag mpo mwy mdy mhw mkk mkf mrs mrm mrw mth 0 mgr mwa mre mpl mib msn mpn mlo mtl mke mim mhi mp0 mtk mki mun msd mbe) 0 [(0, .ref (a 0)), (1, .int (iN (i))), (2, .int (iN (al))), (3, .int (iN (b))), (4, .int (iN (st)))] []
  refine x_aload_n C 0 rfl rfl dX12_reached_0 ?_
  refine x_V_V C (As := []) (rest := []) 0 0 rfl rfl gX12_reached_X12_open rfl (c_X12_open _ _ a mh mn mkd mfg mag mpo mwy mdy mhw mkk mkf mrs mrm mrw mth 0 mgr mwa mre mpl mib msn mpn mlo mtl mke mim mhi mp0 mtk mki mun msd mbe) rfl ok_X12_open rfl rfl rfl rfl dX12_reached_1 (fun w1 hp => ?_)
  obtain rfl := hp
  refine x_iconst (v := 0) C dX12_reached_4 ?_
  refine x_istore C [(5, .int (iN (0))), (0, .ref (a 0)), (1, .int (iN (i))), (2, .int (iN (al))), (3, .int (iN (b))), (4, .int (iN (st)))] (by decide) rfl dX12_reached_5 ?_
  have LP7 : ∀ (f : Nat) (k : Nat) (v5_7 : Int), (mn.toNat - k < f) → (k ≤ mn.toNat) → (((k : Int)) = v5_7) → Wx X 0 0 (WM X.γ a mh mn mkd mfg mag (gth (k : Int) al i mpo) mwy mdy mhw mkk mkf mrs mrm mrw mth 0 mgr mwa mre mpl mib msn mpn mlo mtl (pck mh mn mdy mkd mfg mag mpo mwy) mim mhi 47 1 (.ref (a 18)) mun msd mbe) 7 [(5, .int (iN (v5_7))), (0, .ref (a 0)), (1, .int (iN (i))), (2, .int (iN (al))), (3, .int (iN (b))), (4, .int (iN (st)))] [] := by
    intro f
    induction f with
    | zero => intro k v5_7 hf; exact absurd hf (Nat.not_lt_zero _)
    | succ f ih7 =>
      intro k v5_7 hf hk e5_7
      subst e5_7
      refine x_iload C 0 rfl dX12_reached_7 ?_
      refine x_aload_n C 1 rfl rfl dX12_reached_9 ?_
      refine x_get C in_X12_reached_X12 0 rfl rfl 1 (by decide) (List.mem_of_getElem? (i := 1) rfl) rfl (v := .int (iN (mn))) rfl dX12_reached_10 ?_
      refine x_icmp_ge C 54 (by decide) (by omega) dX12_reached_13 (fun c_13 => ?_) (fun c_13 => ?_)
      · have LP54 : ∀ (f : Nat) (q : Nat) (Q : Int → Int) (G : Int → Int), (15 - q < f) → (bd Q 0 14) → ((q : Int) + (if b = 1 then 14 - Q i else Q i) ≤ 14) → (hid (Ct.rc (Lc mh mn mdy mkd mfg mag mpo mwy) i al st b 15 mpo = Ct.rc (Lc mh mn mdy mkd mfg mag mpo mwy) i al st b (15 - q) Q)) → Wx X 0 0 (WM X.γ a mh mn mkd mfg mag (gth mn al i Q) mwy mdy mhw mkk mkf mrs mrm mrw mth 0 G mwa mre mpl mib msn mpn mlo mtl (pck mh mn mdy mkd mfg mag mpo mwy) mim mhi 47 1 (.ref (a 18)) mun msd mbe) 54 [(0, .ref (a 0)), (1, .int (iN (i))), (2, .int (iN (al))), (3, .int (iN (b))), (4, .int (iN (st)))] [] := by
          intro f
          induction f with
          | zero => intro q Q G hf; exact absurd hf (Nat.not_lt_zero _)
          | succ f ih54 =>
            intro q Q G hf hQ hq hr
            have hQi := hQ i
            refine x_aload_n C 0 rfl rfl dX12_reached_54 ?_
            refine x_get C in_X12_reached_X12 0 rfl rfl 5 (by decide) (List.mem_of_getElem? (i := 2) rfl) rfl (v := .ref (a 5)) rfl dX12_reached_55 ?_
            refine x_iload_n C 1 rfl rfl dX12_reached_58 ?_
            refine x_iaload C (f := (gth mn al i Q)) 5 rfl (by omega) rfl dX12_reached_59 ?_
            have b100 := (gth_ok (n := mn) (al := al) (i := i) hQ) (i)
            refine x_iload C 4 rfl dX12_reached_60 ?_
            rw [show (gth mn al i Q) i = Q i from gth_i _ _ _ _]
            refine x_icmp_eq C 139 (by decide) (by omega) dX12_reached_62 (fun c_62 => ?_) (fun c_62 => ?_)
            · refine x_aload_n C 0 rfl rfl dX12_reached_139 ?_
              refine x_get C in_X12_reached_X12 0 rfl rfl 5 (by decide) (List.mem_of_getElem? (i := 2) rfl) rfl (v := .ref (a 5)) rfl dX12_reached_140 ?_
              refine x_iload_n C 1 rfl rfl dX12_reached_143 ?_
              refine x_iaload C (f := (gth mn al i Q)) 5 rfl (by omega) rfl dX12_reached_144 ?_
              have b101 := (gth_ok (n := mn) (al := al) (i := i) hQ) (i)
              rw [show (gth mn al i Q) i = Q i from gth_i _ _ _ _]
              refine x_istore C [(5, .int (iN (Q i))), (0, .ref (a 0)), (1, .int (iN (i))), (2, .int (iN (al))), (3, .int (iN (b))), (4, .int (iN (st)))] (by decide) rfl dX12_reached_145 ?_
              refine x_aload_n C 1 rfl rfl dX12_reached_147 ?_
              refine x_V_V C (As := []) (rest := []) 0 0 rfl rfl gX12_reached_X12_close rfl (c_X12_close _ _ a mh mn mkd mfg mag (gth mn al i Q) mwy mdy mhw mkk mkf mrs mrm mrw mth 0 G mwa mre mpl mib msn mpn mlo mtl mim mhi 47 1 (.ref (a 18)) mun msd mbe mh mn mdy mkd mfg mag mpo mwy) rfl ok_X12_close rfl rfl rfl rfl dX12_reached_148 (fun w1 hp => ?_)
              obtain rfl := hp
              refine x_iload C 0 rfl dX12_reached_151 ?_
              exact hret _ _ _ _ dX12_reached_153 rfl ⟨_, (by have hr : _ = _ := hr; show _ = _; rw [hr, show 15 - q = (14 - q) + 1 by omega]; exact (rch_at (show Q i = st by omega)).symm), rfl⟩
            · refine x_aload_n C 0 rfl rfl dX12_reached_65 ?_
              refine x_iload_n C 1 rfl rfl dX12_reached_66 ?_
              refine x_iload_n C 3 rfl rfl dX12_reached_67 ?_
              refine x_V_I C (As := [.int (iN (i)), .int (iN (b))]) (rest := []) 2 0 rfl rfl gX12_reached_X12_couldGo rfl (c_X12_couldGo _ _ a mh mn mkd mfg mag (gth mn al i Q) mwy mdy mhw mkk mkf mrs mrm mrw mth G mwa mre mpl mib msn mpn mlo mtl (pck mh mn mdy mkd mfg mag mpo mwy) mim mhi 47 1 (.ref (a 18)) mun msd mbe (WFm.posn hM (gth_ok (n := mn) (al := al) (i := i) hQ)) (i) (b) (by omega) (by omega)) rfl ok_X12_couldGo rfl rfl rfl rfl dX12_reached_68 (fun r w1 hp => ?_)
              obtain ⟨rfl, rfl⟩ := hp
              refine x_ifeq_bz C 139 (by decide) dX12_reached_71 (fun c_71 => ?_) (fun c_71 => ?_)
              · refine x_aload_n C 0 rfl rfl dX12_reached_139 ?_
                refine x_get C in_X12_reached_X12 0 rfl rfl 5 (by decide) (List.mem_of_getElem? (i := 2) rfl) rfl (v := .ref (a 5)) rfl dX12_reached_140 ?_
                refine x_iload_n C 1 rfl rfl dX12_reached_143 ?_
                refine x_iaload C (f := (gth mn al i Q)) 5 rfl (by omega) rfl dX12_reached_144 ?_
                have b102 := (gth_ok (n := mn) (al := al) (i := i) hQ) (i)
                rw [show (gth mn al i Q) i = Q i from gth_i _ _ _ _]
                refine x_istore C [(5, .int (iN (Q i))), (0, .ref (a 0)), (1, .int (iN (i))), (2, .int (iN (al))), (3, .int (iN (b))), (4, .int (iN (st)))] (by decide) rfl dX12_reached_145 ?_
                refine x_aload_n C 1 rfl rfl dX12_reached_147 ?_
                refine x_V_V C (As := []) (rest := []) 0 0 rfl rfl gX12_reached_X12_close rfl (c_X12_close _ _ a mh mn mkd mfg mag (gth mn al i Q) mwy mdy mhw mkk mkf mrs mrm mrw mth 0 (Ct.g (Lc mh mn mdy mkd mfg mag (gth mn al i Q) mwy)) mwa mre mpl mib msn mpn mlo mtl mim mhi 47 1 (.ref (a 18)) mun msd mbe mh mn mdy mkd mfg mag mpo mwy) rfl ok_X12_close rfl rfl rfl rfl dX12_reached_148 (fun w1 hp => ?_)
                obtain rfl := hp
                refine x_iload C 0 rfl dX12_reached_151 ?_
                exact hret _ _ _ _ dX12_reached_153 rfl ⟨_, (by have hr : _ = _ := hr; show _ = _; rw [hr, show 15 - q = (14 - q) + 1 by omega]; exact (rch_no c_71).symm), rfl⟩
              · refine x_aload_n C 0 rfl rfl dX12_reached_74 ?_
                refine x_get C in_X12_reached_X12 0 rfl rfl 5 (by decide) (List.mem_of_getElem? (i := 2) rfl) rfl (v := .ref (a 5)) rfl dX12_reached_75 ?_
                refine x_iload_n C 1 rfl rfl dX12_reached_78 ?_
                refine x_iaload C (f := (gth mn al i Q)) 5 rfl (by omega) rfl dX12_reached_79 ?_
                have b103 := (gth_ok (n := mn) (al := al) (i := i) hQ) (i)
                refine x_iload_n C 3 rfl rfl dX12_reached_80 ?_
                refine x_iadd C dX12_reached_81 ?_
                rw [show ((gth mn al i Q) i) + b = Q i + b from by rw [gth_i]]
                have hgo : mgo (Ct.h (Lc mh mn mdy mkd mfg mag mpo mwy)) (Ct.n (Lc mh mn mdy mkd mfg mag mpo mwy)) (Ct.pr (Lc mh mn mdy mkd mfg mag mpo mwy)) (Ct.sp (Lc mh mn mdy mkd mfg mag mpo mwy)) (Ct.sr (Lc mh mn mdy mkd mfg mag mpo mwy)) (gth mn al i Q) i b := c_71
                have hv : 0 ≤ Q i + b ∧ Q i + b ≤ 14 := by have h := hgo.1; rw [gth_i] at h; exact h
                refine x_istore C [(5, .int (iN (Q i + b))), (0, .ref (a 0)), (1, .int (iN (i))), (2, .int (iN (al))), (3, .int (iN (b))), (4, .int (iN (st)))] (by decide) rfl dX12_reached_82 ?_
                refine x_iconst (v := 0) C dX12_reached_84 ?_
                refine x_istore C [(6, .int (iN (0))), (5, .int (iN (Q i + b))), (0, .ref (a 0)), (1, .int (iN (i))), (2, .int (iN (al))), (3, .int (iN (b))), (4, .int (iN (st)))] (by decide) rfl dX12_reached_85 ?_
                have LP87 : ∀ (f : Nat) (j : Nat) (v6_87 : Int), (mn.toNat - j < f) → (j ≤ mn.toNat) → (((j : Int)) = v6_87) → Wx X 0 0 (WM X.γ a mh mn mkd mfg mag (mvk (j : Int) al i (Q i + b) (gth mn al i Q)) mwy mdy mhw mkk mkf mrs mrm mrw mth 0 (Ct.g (Lc mh mn mdy mkd mfg mag (gth mn al i Q) mwy)) mwa mre mpl mib msn mpn mlo mtl (pck mh mn mdy mkd mfg mag mpo mwy) mim mhi 47 1 (.ref (a 18)) mun msd mbe) 87 [(6, .int (iN (v6_87))), (5, .int (iN (Q i + b))), (0, .ref (a 0)), (1, .int (iN (i))), (2, .int (iN (al))), (3, .int (iN (b))), (4, .int (iN (st)))] [] := by
                  intro f
                  induction f with
                  | zero => intro j v6_87 hf; exact absurd hf (Nat.not_lt_zero _)
                  | succ f ih87 =>
                    intro j v6_87 hf hj e6_87
                    subst e6_87
                    refine x_iload C 0 rfl dX12_reached_87 ?_
                    refine x_aload_n C 2 rfl rfl dX12_reached_89 ?_
                    refine x_get C in_X12_reached_X12 0 rfl rfl 1 (by decide) (List.mem_of_getElem? (i := 1) rfl) rfl (v := .int (iN (mn))) rfl dX12_reached_90 ?_
                    refine x_icmp_ge C 136 (by decide) (by omega) dX12_reached_93 (fun c_93 => ?_) (fun c_93 => ?_)
                    · refine x_goto C 54 (by decide) dX12_reached_136 ?_
                      refine Wx.subL [2, 3, 4, 5, 6] rfl ?_
                      refine Wx.eqW (ws' := (WM X.γ a mh mn mkd mfg mag (gth mn al i (upz (gth mn al i Q) i (Q i + b))) mwy mdy mhw mkk mkf mrs mrm mrw mth 0 (Ct.g (Lc mh mn mdy mkd mfg mag (gth mn al i Q) mwy)) mwa mre mpl mib msn mpn mlo mtl (pck mh mn mdy mkd mfg mag mpo mwy) mim mhi 47 1 (.ref (a 18)) mun msd mbe)) (by rw [show ((j : Nat) : Int) = mn by omega, mvk_gth (by omega)]) ?_
                      exact ih54 (q + 1) ((upz (gth mn al i Q) i (Q i + b))) (Ct.g (Lc mh mn mdy mkd mfg mag (gth mn al i Q) mwy)) (by omega) (bd_upz (gth_ok hQ) hv) (by rw [upz_s]; omega) (by have hr : _ = _ := hr; show _ = _; rw [hr, show 15 - q = (15 - (q + 1)) + 1 by omega]; exact rch_go (by omega) hgo)
                    · refine x_aload_n C 2 rfl rfl dX12_reached_96 ?_
                      refine x_get C in_X12_reached_X12 0 rfl rfl 5 (by decide) (List.mem_of_getElem? (i := 2) rfl) rfl (v := .ref (a 5)) rfl dX12_reached_97 ?_
                      refine x_iload C 0 rfl dX12_reached_100 ?_
                      refine x_iload C 0 rfl dX12_reached_102 ?_
                      refine x_iload_n C 3 rfl rfl dX12_reached_104 ?_
                      have LP129 : ∀ (s0_129 : Int), (s0_129 = (if (j : Int) = i ∨ btz al (j : Int) then Q i + b else gth mn al i Q (j : Int))) → Wx X 0 0 (WM X.γ a mh mn mkd mfg mag (mvk (j : Int) al i (Q i + b) (gth mn al i Q)) mwy mdy mhw mkk mkf mrs mrm mrw mth 0 (Ct.g (Lc mh mn mdy mkd mfg mag (gth mn al i Q) mwy)) mwa mre mpl mib msn mpn mlo mtl (pck mh mn mdy mkd mfg mag mpo mwy) mim mhi 47 1 (.ref (a 18)) mun msd mbe) 129 [(6, .int (iN ((j : Int)))), (5, .int (iN (Q i + b))), (0, .ref (a 0)), (1, .int (iN (i))), (2, .int (iN (al))), (3, .int (iN (b))), (4, .int (iN (st)))] [.int (iN (s0_129)), .int (iN ((j : Int))), .ref (a 5)] := by
                        intro s0_129 es0_129
                        refine x_iastore C (f := (mvk (j : Int) al i (Q i + b) (gth mn al i Q))) 5 rfl (by omega) rfl (WM X.γ a mh mn mkd mfg mag (upz (mvk (j : Int) al i (Q i + b) (gth mn al i Q)) (j : Int) s0_129) mwy mdy mhw mkk mkf mrs mrm mrw mth 0 (Ct.g (Lc mh mn mdy mkd mfg mag (gth mn al i Q) mwy)) mwa mre mpl mib msn mpn mlo mtl (pck mh mn mdy mkd mfg mag mpo mwy) mim mhi 47 1 (.ref (a 18)) mun msd mbe) rfl dX12_reached_129 ?_
                        refine x_iinc C 0 [(6, .int (iN ((j : Int) + 1))), (5, .int (iN (Q i + b))), (0, .ref (a 0)), (1, .int (iN (i))), (2, .int (iN (al))), (3, .int (iN (b))), (4, .int (iN (st)))] rfl rfl (by decide) rfl dX12_reached_130 ?_
                        refine x_goto C 87 (by decide) dX12_reached_133 ?_
                        refine Wx.eqW (ws' := (WM X.γ a mh mn mkd mfg mag (mvk ((j + 1 : Nat) : Int) al i (Q i + b) (gth mn al i Q)) mwy mdy mhw mkk mkf mrs mrm mrw mth 0 (Ct.g (Lc mh mn mdy mkd mfg mag (gth mn al i Q) mwy)) mwa mre mpl mib msn mpn mlo mtl (pck mh mn mdy mkd mfg mag mpo mwy) mim mhi 47 1 (.ref (a 18)) mun msd mbe)) (by rw [mvk_s, es0_129]) ?_
                        exact ih87 (j + 1) _ (by omega) (by omega) (by omega)
                      refine x_icmp_eq C 117 (by decide) (by omega) dX12_reached_105 (fun c_105 => ?_) (fun c_105 => ?_)
                      · refine x_iload C 1 rfl dX12_reached_117 ?_
                        refine x_goto C 129 (by decide) dX12_reached_119 ?_
                        exact LP129 _ (by rw [if_pos (Or.inl c_105)])
                      · refine x_iload_n C 4 rfl rfl dX12_reached_108 ?_
                        refine x_iload C 0 rfl dX12_reached_109 ?_
                        refine x_S_I C (As := [.int (iN (al)), .int (iN ((j : Int)))]) (rest := [.int (iN ((j : Int))), .ref (a 5)]) 2 gX12_reached_X12_hasBit (c_X12_hasBit _ _ (WM X.γ a mh mn mkd mfg mag (mvk (j : Int) al i (Q i + b) (gth mn al i Q)) mwy mdy mhw mkk mkf mrs mrm mrw mth 0 (Ct.g (Lc mh mn mdy mkd mfg mag (gth mn al i Q) mwy)) mwa mre mpl mib msn mpn mlo mtl (pck mh mn mdy mkd mfg mag mpo mwy) mim mhi 47 1 (.ref (a 18)) mun msd mbe) (al) ((j : Int)) (by omega) (by omega)) rfl ok_X12_hasBit rfl rfl rfl rfl dX12_reached_111 (fun r w1 hp => ?_)
                        obtain ⟨rfl, rfl⟩ := hp
                        refine x_ifeq_bz C 122 (by decide) dX12_reached_114 (fun c_114 => ?_) (fun c_114 => ?_)
                        · refine x_aload_n C 2 rfl rfl dX12_reached_122 ?_
                          refine x_get C in_X12_reached_X12 0 rfl rfl 5 (by decide) (List.mem_of_getElem? (i := 2) rfl) rfl (v := .ref (a 5)) rfl dX12_reached_123 ?_
                          refine x_iload C 0 rfl dX12_reached_126 ?_
                          refine x_iaload C (f := (mvk (j : Int) al i (Q i + b) (gth mn al i Q))) 5 rfl (by omega) rfl dX12_reached_128 ?_
                          have b104 := (mvk_b (k := (j : Int)) (al := al) (i := i) hv (gth_ok (n := mn) (al := al) (i := i) hQ)) ((j : Int))
                          exact LP129 _ (by rw [if_neg (fun z => z.elim (fun y => c_105 y) (fun y => c_114 y)), mvk_at])
                        · refine x_iload C 1 rfl dX12_reached_117 ?_
                          refine x_goto C 129 (by decide) dX12_reached_119 ?_
                          exact LP129 _ (by rw [if_pos (Or.inr c_114)])
                refine Wx.eqW (ws' := (WM X.γ a mh mn mkd mfg mag (mvk ((0 : Nat) : Int) al i (Q i + b) (gth mn al i Q)) mwy mdy mhw mkk mkf mrs mrm mrw mth 0 (Ct.g (Lc mh mn mdy mkd mfg mag (gth mn al i Q) mwy)) mwa mre mpl mib msn mpn mlo mtl (pck mh mn mdy mkd mfg mag mpo mwy) mim mhi 47 1 (.ref (a 18)) mun msd mbe)) (by rw [mvk_0]) ?_
                exact LP87 ((mn.toNat - (0)) + 1) (0) _ (by omega) (by omega) (by omega)
        refine Wx.subL [1, 2, 3, 4, 5] rfl ?_
        refine Wx.eqW (ws' := (WM X.γ a mh mn mkd mfg mag (gth mn al i mpo) mwy mdy mhw mkk mkf mrs mrm mrw mth 0 mgr mwa mre mpl mib msn mpn mlo mtl (pck mh mn mdy mkd mfg mag mpo mwy) mim mhi 47 1 (.ref (a 18)) mun msd mbe)) (by rw [show ((k : Nat) : Int) = mn by omega]) ?_
        exact LP54 ((15 - (0)) + 1) (0) (mpo) (mgr) (by omega) (WFm.po hM) (by have hb0 := WFm.po hM i; omega) (rfl)
      · refine x_aload_n C 1 rfl rfl dX12_reached_16 ?_
        refine x_get C in_X12_reached_X12 0 rfl rfl 5 (by decide) (List.mem_of_getElem? (i := 2) rfl) rfl (v := .ref (a 5)) rfl dX12_reached_17 ?_
        refine x_iload C 0 rfl dX12_reached_20 ?_
        refine x_iload_n C 3 rfl rfl dX12_reached_22 ?_
        refine x_iload C 0 rfl dX12_reached_23 ?_
        refine x_S_I C (As := [.int (iN (al)), .int (iN ((k : Int)))]) (rest := [.int (iN ((k : Int))), .ref (a 5)]) 2 gX12_reached_X12_hasBit (c_X12_hasBit _ _ (WM X.γ a mh mn mkd mfg mag (gth (k : Int) al i mpo) mwy mdy mhw mkk mkf mrs mrm mrw mth 0 mgr mwa mre mpl mib msn mpn mlo mtl (pck mh mn mdy mkd mfg mag mpo mwy) mim mhi 47 1 (.ref (a 18)) mun msd mbe) (al) ((k : Int)) (by omega) (by omega)) rfl ok_X12_hasBit rfl rfl rfl rfl dX12_reached_25 (fun r w1 hp => ?_)
        obtain ⟨rfl, rfl⟩ := hp
        have LP47 : ∀ (s0_47 : Int), (s0_47 = (if btz al (k : Int) then mpo i else mpo (k : Int))) → Wx X 0 0 (WM X.γ a mh mn mkd mfg mag (gth (k : Int) al i mpo) mwy mdy mhw mkk mkf mrs mrm mrw mth 0 mgr mwa mre mpl mib msn mpn mlo mtl (pck mh mn mdy mkd mfg mag mpo mwy) mim mhi 47 1 (.ref (a 18)) mun msd mbe) 47 [(5, .int (iN ((k : Int)))), (0, .ref (a 0)), (1, .int (iN (i))), (2, .int (iN (al))), (3, .int (iN (b))), (4, .int (iN (st)))] [.int (iN (s0_47)), .int (iN ((k : Int))), .ref (a 5)] := by
          intro s0_47 es0_47
          refine x_iastore C (f := (gth (k : Int) al i mpo)) 5 rfl (by omega) rfl (WM X.γ a mh mn mkd mfg mag (upz (gth (k : Int) al i mpo) (k : Int) s0_47) mwy mdy mhw mkk mkf mrs mrm mrw mth 0 mgr mwa mre mpl mib msn mpn mlo mtl (pck mh mn mdy mkd mfg mag mpo mwy) mim mhi 47 1 (.ref (a 18)) mun msd mbe) rfl dX12_reached_47 ?_
          refine x_iinc C 0 [(5, .int (iN ((k : Int) + 1))), (0, .ref (a 0)), (1, .int (iN (i))), (2, .int (iN (al))), (3, .int (iN (b))), (4, .int (iN (st)))] rfl rfl (by decide) rfl dX12_reached_48 ?_
          refine x_goto C 7 (by decide) dX12_reached_51 ?_
          refine Wx.eqW (ws' := (WM X.γ a mh mn mkd mfg mag (gth ((k + 1 : Nat) : Int) al i mpo) mwy mdy mhw mkk mkf mrs mrm mrw mth 0 mgr mwa mre mpl mib msn mpn mlo mtl (pck mh mn mdy mkd mfg mag mpo mwy) mim mhi 47 1 (.ref (a 18)) mun msd mbe)) (by rw [gth_s, es0_47]) ?_
          exact ih7 (k + 1) _ (by omega) (by omega) (by omega)
        refine x_ifeq_bz C 40 (by decide) dX12_reached_28 (fun c_28 => ?_) (fun c_28 => ?_)
        · refine x_aload_n C 1 rfl rfl dX12_reached_40 ?_
          refine x_get C in_X12_reached_X12 0 rfl rfl 5 (by decide) (List.mem_of_getElem? (i := 2) rfl) rfl (v := .ref (a 5)) rfl dX12_reached_41 ?_
          refine x_iload C 0 rfl dX12_reached_44 ?_
          refine x_iaload C (f := (gth (k : Int) al i mpo)) 5 rfl (by omega) rfl dX12_reached_46 ?_
          have b105 := (gth_ok (n := (k : Int)) (al := al) (i := i) (WFm.po hM)) ((k : Int))
          exact LP47 _ (by rw [if_neg c_28, gth_at])
        · refine x_aload_n C 1 rfl rfl dX12_reached_31 ?_
          refine x_get C in_X12_reached_X12 0 rfl rfl 5 (by decide) (List.mem_of_getElem? (i := 2) rfl) rfl (v := .ref (a 5)) rfl dX12_reached_32 ?_
          refine x_iload_n C 2 rfl rfl dX12_reached_35 ?_
          refine x_iaload C (f := (gth (k : Int) al i mpo)) 5 rfl (by omega) rfl dX12_reached_36 ?_
          have b106 := (gth_ok (n := (k : Int)) (al := al) (i := i) (WFm.po hM)) (i)
          refine x_goto C 47 (by decide) dX12_reached_37 ?_
          exact LP47 _ (by rw [if_pos c_28, gth_i])
  refine Wx.eqW (ws' := (WM X.γ a mh mn mkd mfg mag (gth ((0 : Nat) : Int) al i mpo) mwy mdy mhw mkk mkf mrs mrm mrw mth 0 mgr mwa mre mpl mib msn mpn mlo mtl (pck mh mn mdy mkd mfg mag mpo mwy) mim mhi 47 1 (.ref (a 18)) mun msd mbe)) (by rw [gth_0]) ?_
  exact LP7 ((mn.toNat - (0)) + 1) (0) _ (by omega) (by omega) (by omega)
end HGOE
