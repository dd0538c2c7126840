section HROW
/-- whether the k first of a row are skipped, or the ground he stands on that day -/
def rok (C : Ct) (so i : Int) (f : Int → Int) : Nat → Int
  | 0 => 1
  | k + 1 => if rok C so i f k = 0 then 0 else if f (k : Int) = lsz so ∨ f (k : Int) = Ct.g (Ct.days C k) (Ct.po (Ct.days C k) i) then 1 else 0
theorem rok_01 (C : Ct) (so i : Int) (f : Int → Int) : ∀ k, rok C so i f k = 0 ∨ rok C so i f k = 1
  | 0 => Or.inr rfl
  | k + 1 => by
    simp only [rok]
    split
    · exact Or.inl rfl
    · split
      · exact Or.inr rfl
      · exact Or.inl rfl
theorem rok_stay {C : Ct} {so i : Int} {f : Int → Int} {k : Nat} (h : rok C so i f k = 0) : ∀ j, rok C so i f (k + j) = 0
  | 0 => h
  | j + 1 => by
    show (if rok C so i f (k + j) = 0 then 0 else _) = 0
    rw [if_pos (rok_stay h j)]
theorem rok_end {C : Ct} {so i : Int} {f : Int → Int} {k m : Nat} (hk : k ≤ m) (h : k = m ∨ rok C so i f k = 0) : rok C so i f m = rok C so i f k := by
  cases h with
  | inl h => rw [h]
  | inr h =>
    have := rok_stay h (m - k)
    rw [show k + (m - k) = m by omega] at this
    rw [this, h]
theorem in_X12_isRow_X12 : ∀ w ∈ u_ws RX12 TX12 34, w ∈ wsX12_isRow := by decide +kernel
theorem ok_X12_isRow : okY yX12_isRow 2 := by decide +kernel
def rmX12_isRow : Room := { frames := 6, cells := 0, slots := 0, locals := 133 }
set_option maxRecDepth 100000 in
set_option maxHeartbeats 400000 in
theorem c_X12_isRow (l : Launch) (γ : GX) (a : Nat → Nat) (mh : Int → Int) (mn : Int) (mkd : Int → Int) (mfg : Int → Int) (mag : Int → Int) (mpo : Int → Int) (mwy : Int → Int) (mdy : Int) (mhw : Int → Int) (mkk : Int → Int) (mkf : Int → Int) (mrs : Int → Int) (mrm : Int → Int) (mrw : Int → Int) (mth : Int) (mgr : Int → Int) (mwa : Int → Int) (mre : Int) (mpl : Int) (mib : Int) (msn : Int) (mpn : Int → Int) (mlo : Int → Int) (mtl : Int → Int) (mim : Int → Int) (mhi : Int) (mp0 : Int) (mtk : Int) (mki : Value) (mun : Int → Int) (msd : Int) (mbe : Int → Int) (h0 : Int → Int) (n0 dy0 : Int) (kd0 fg0 ag0 po0 wy0 : Int → Int) (hM : WFm mn mh mkd mfg mag mpo mwy mhw mkk mkf mrs mrm mrw) (d : Int) (i : Int) (h0_ : 0 ≤ d ∧ d ≤ 7) (h1_ : 0 ≤ i ∧ i ≤ mn - 1) : MI l γ yX12_isRow wsX12_isRow rmX12_isRow [.ref (a 0), .int (iN (d)), .int (iN (i))] (WM γ a mh mn mkd mfg mag mpo mwy mdy mhw mkk mkf mrs mrm mrw mth 0 mgr mwa mre mpl mib msn mpn mlo mtl (pck h0 n0 dy0 kd0 fg0 ag0 po0 wy0) mim mhi mp0 mtk mki mun msd mbe) (fun r_ w_ => ∃ G, r_ = rok (Lc mh mn mdy mkd mfg mag mpo mwy) (mrs d) i (fun t => mrw (100 * d + t)) (mrm d).toNat ∧ w_ = (WM γ a h0 n0 kd0 fg0 ag0 po0 wy0 dy0 mhw mkk mkf mrs mrm mrw mth 0 G mwa mre mpl mib msn mpn mlo mtl (pck h0 n0 dy0 kd0 fg0 ag0 po0 wy0) mim mhi 47 0 (.ref (a 18)) mun msd mbe)) 0 0 := by
  refine MI.of (cc := cX12_isRow) (maxL := 7) (rt := .boolean) RX12 rfl (by decide +kernel) rfl (Nat.le_of_ble_eq_true rfl) ?_
  intro X C hγ hl hnm hret
  subst hγ
  have hMn := WFm.n hM
  have hrm := WFm.rm hM d
  show Wx X 0 0 (WM X.γ a mh mn mkd mfg mag mpo mwy mdy mhw mkk mkf mrs mrm mrw mth 0 mgr mwa mre mpl mib msn mpn mlo mtl (pck h0 n0 dy0 kd0 fg0 ag0 po0 wy0) mim mhi mp0 mtk mki mun msd mbe) 0 [(0, .ref (a 0)), (1, .int (iN (d))), (2, .int (iN (i)))] []
  refine x_iconst (v := 0) C dX12_isRow_0 ?_
  refine x_istore_n C [(3, .int (iN (1))), (0, .ref (a 0)), (1, .int (iN (d))), (2, .int (iN (i)))] rfl (by decide) rfl dX12_isRow_1 ?_
  refine x_iconst (v := 0) C dX12_isRow_2 ?_
  refine x_istore C [(4, .int (iN (0))), (3, .int (iN (1))), (0, .ref (a 0)), (1, .int (iN (d))), (2, .int (iN (i)))] (by decide) rfl dX12_isRow_3 ?_
  have LP5 : ∀ (f : Nat) (k : Nat) (G : Int → Int) (v4_5 : Int) (v3_5 : Int), ((mrm d).toNat - k < f) → (k ≤ (mrm d).toNat) → (((k : Int)) = v4_5) → (v3_5 = (rok (Lc mh mn mdy mkd mfg mag mpo mwy) (mrs d) i (fun t => mrw (100 * d + t)) k)) → Wx X 0 0 (WM X.γ a mh mn mkd mfg mag (Ct.po (Ct.days (Lc mh mn mdy mkd mfg mag mpo mwy) k)) (Ct.wy (Ct.days (Lc mh mn mdy mkd mfg mag mpo mwy) k)) (Ct.dy (Ct.days (Lc mh mn mdy mkd mfg mag mpo mwy) k)) mhw mkk mkf mrs mrm mrw mth 0 G mwa mre mpl mib msn mpn mlo mtl (pck h0 n0 dy0 kd0 fg0 ag0 po0 wy0) mim mhi mp0 mtk mki mun msd mbe) 5 [(4, .int (iN (v4_5))), (3, .int (iN (v3_5))), (0, .ref (a 0)), (1, .int (iN (d))), (2, .int (iN (i)))] [] := by
    intro f
    induction f with
    | zero => intro k G v4_5 v3_5 hf; exact absurd hf (Nat.not_lt_zero _)
    | succ f ih5 =>
      intro k G v4_5 v3_5 hf hk e4_5 e3_5
      subst e4_5
      have b01 := rok_01 (Lc mh mn mdy mkd mfg mag mpo mwy) (mrs d) i (fun t => mrw (100 * d + t)) k
      refine x_iload C 0 rfl dX12_isRow_5 ?_
      refine x_aload_n C 2 rfl rfl dX12_isRow_7 ?_
      refine x_get C in_X12_isRow_X12 0 rfl rfl 12 (by decide) (List.mem_of_getElem? (i := 1) rfl) rfl (v := .ref (a 11)) rfl dX12_isRow_8 ?_
      refine x_iload_n C 3 rfl rfl dX12_isRow_11 ?_
      refine x_iaload C (f := mrm) 11 rfl (by omega) rfl dX12_isRow_12 ?_
      have b134 := WFm.rm hM (d)
      refine x_icmp_ge C 79 (by decide) (by omega) dX12_isRow_13 (fun c_13 => ?_) (fun c_13 => ?_)
      · refine x_aload_n C 2 rfl rfl dX12_isRow_79 ?_
        refine x_V_V C (As := []) (rest := []) 0 0 rfl rfl gX12_isRow_X12_close rfl (c_X12_close _ _ a mh mn mkd mfg mag (Ct.po (Ct.days (Lc mh mn mdy mkd mfg mag mpo mwy) k)) (Ct.wy (Ct.days (Lc mh mn mdy mkd mfg mag mpo mwy) k)) (Ct.dy (Ct.days (Lc mh mn mdy mkd mfg mag mpo mwy) k)) mhw mkk mkf mrs mrm mrw mth 0 G mwa mre mpl mib msn mpn mlo mtl mim mhi mp0 mtk mki mun msd mbe h0 n0 dy0 kd0 fg0 ag0 po0 wy0) rfl ok_X12_close rfl rfl rfl rfl dX12_isRow_80 (fun w1 hp => ?_)
        obtain rfl := hp
        refine x_iload_n C 1 rfl rfl dX12_isRow_83 ?_
        exact hret _ _ _ _ dX12_isRow_84 (nar_z (by omega)) ⟨_, (by rw [rok_end (k := k) (by omega) (by rw [← e3_5]; omega)]; exact e3_5), rfl⟩
      · refine x_iload_n C 1 rfl rfl dX12_isRow_16 ?_
        refine x_if_eq C 79 (by decide) (by omega) dX12_isRow_17 (fun c_17 => ?_) (fun c_17 => ?_)
        · refine x_aload_n C 2 rfl rfl dX12_isRow_79 ?_
          refine x_V_V C (As := []) (rest := []) 0 0 rfl rfl gX12_isRow_X12_close rfl (c_X12_close _ _ a mh mn mkd mfg mag (Ct.po (Ct.days (Lc mh mn mdy mkd mfg mag mpo mwy) k)) (Ct.wy (Ct.days (Lc mh mn mdy mkd mfg mag mpo mwy) k)) (Ct.dy (Ct.days (Lc mh mn mdy mkd mfg mag mpo mwy) k)) mhw mkk mkf mrs mrm mrw mth 0 G mwa mre mpl mib msn mpn mlo mtl mim mhi mp0 mtk mki mun msd mbe h0 n0 dy0 kd0 fg0 ag0 po0 wy0) rfl ok_X12_close rfl rfl rfl rfl dX12_isRow_80 (fun w1 hp => ?_)
          obtain rfl := hp
          refine x_iload_n C 1 rfl rfl dX12_isRow_83 ?_
          exact hret _ _ _ _ dX12_isRow_84 (nar_z (by omega)) ⟨_, (by rw [rok_end (k := k) (by omega) (by rw [← e3_5]; omega)]; exact e3_5), rfl⟩
        · refine x_aload_n C 2 rfl rfl dX12_isRow_20 ?_
          refine x_get C in_X12_isRow_X12 0 rfl rfl 13 (by decide) (List.mem_of_getElem? (i := 2) rfl) rfl (v := .ref (a 12)) rfl dX12_isRow_21 ?_
          refine x_bipush C (100) (by decide) dX12_isRow_24 ?_
          refine x_iload_n C 3 rfl rfl dX12_isRow_26 ?_
          refine x_imul C dX12_isRow_27 ?_
          refine x_iload C 0 rfl dX12_isRow_28 ?_
          refine x_iadd C dX12_isRow_30 ?_
          refine x_laload C (f := mrw) 12 rfl (by omega) rfl dX12_isRow_31 ?_
          have b135 := WFm.rw hM ((100 * d) + (k : Int))
          refine x_lstore C [(5, .long (jN (mrw ((100 * d) + (k : Int))))), (4, .int (iN ((k : Int)))), (3, .int (iN (v3_5))), (0, .ref (a 0)), (1, .int (iN (d))), (2, .int (iN (i)))] (by decide) rfl dX12_isRow_32 ?_
          refine x_lload C 0 rfl dX12_isRow_34 ?_
          refine x_aload_n C 3 rfl rfl dX12_isRow_36 ?_
          refine x_iload_n C 4 rfl rfl dX12_isRow_37 ?_
          refine x_V_J C (As := [.int (iN (d))]) (rest := [.long (jN (mrw ((100 * d) + (k : Int))))]) 1 0 rfl rfl gX12_isRow_X12_skipped rfl (c_X12_skipped _ _ a mh mn mkd mfg mag (Ct.po (Ct.days (Lc mh mn mdy mkd mfg mag mpo mwy) k)) (Ct.wy (Ct.days (Lc mh mn mdy mkd mfg mag mpo mwy) k)) (Ct.dy (Ct.days (Lc mh mn mdy mkd mfg mag mpo mwy) k)) mhw mkk mkf mrs mrm mrw mth 0 G mwa mre mpl mib msn mpn mlo mtl (pck h0 n0 dy0 kd0 fg0 ag0 po0 wy0) mim mhi mp0 mtk mki mun msd mbe (WFm.pw hM (Ct.days_wf (WFm.L hM mdy) k).po (Ct.days_wf (WFm.L hM mdy) k).wy) (d) (by omega)) rfl ok_X12_skipped rfl rfl rfl rfl dX12_isRow_38 (fun r w1 hp => ?_)
          obtain ⟨rfl, rfl⟩ := hp
          show Wx X 0 0 (WM X.γ a mh mn mkd mfg mag (Ct.po (Ct.days (Lc mh mn mdy mkd mfg mag mpo mwy) k)) (Ct.wy (Ct.days (Lc mh mn mdy mkd mfg mag mpo mwy) k)) (Ct.dy (Ct.days (Lc mh mn mdy mkd mfg mag mpo mwy) k)) mhw mkk mkf mrs mrm mrw mth 0 G mwa mre mpl mib msn mpn mlo mtl (pck h0 n0 dy0 kd0 fg0 ag0 po0 wy0) mim mhi mp0 mtk mki mun msd mbe) 41 [(5, .long (jN (mrw ((100 * d) + (k : Int))))), (4, .int (iN ((k : Int)))), (3, .int (iN (v3_5))), (0, .ref (a 0)), (1, .int (iN (d))), (2, .int (iN (i)))] [.long (jN (lsz (mrs d))), .long (jN (mrw ((100 * d) + (k : Int))))]
          have b136 : lsz (mrs d) = if mrs d = 0 then -128 else if mrs d = 1 then -32768 else -2147483648 := rfl
          refine x_lcmp_eq C 62 (by decide) (by omega) dX12_isRow_41 dX12_isRow_42 (fun c_41 => ?_) (fun c_41 => ?_)
          · refine x_iconst (v := 0) C dX12_isRow_62 ?_
            refine x_goto C 67 (by decide) dX12_isRow_63 ?_
            refine x_istore_n C [(3, .int (iN (1))), (5, .long (jN (mrw ((100 * d) + (k : Int))))), (4, .int (iN ((k : Int)))), (0, .ref (a 0)), (1, .int (iN (d))), (2, .int (iN (i)))] rfl (by decide) rfl dX12_isRow_67 ?_
            refine x_aload_n C 3 rfl rfl dX12_isRow_68 ?_
            refine x_iconst (v := 0) C dX12_isRow_69 ?_
            refine x_V_V C (As := [.int (iN (0))]) (rest := []) 1 0 rfl rfl gX12_isRow_X12_dayBy rfl (c_X12_dayBy_0 _ _ a mh mn mkd mfg mag (Ct.po (Ct.days (Lc mh mn mdy mkd mfg mag mpo mwy) k)) (Ct.wy (Ct.days (Lc mh mn mdy mkd mfg mag mpo mwy) k)) (Ct.dy (Ct.days (Lc mh mn mdy mkd mfg mag mpo mwy) k)) mhw mkk mkf mrs mrm mrw mth G mwa mre mpl mib msn mpn mlo mtl (pck h0 n0 dy0 kd0 fg0 ag0 po0 wy0) mim mhi mp0 mtk mki mun msd mbe (WFm.pw hM (Ct.days_wf (WFm.L hM mdy) k).po (Ct.days_wf (WFm.L hM mdy) k).wy)) rfl ok_X12_dayBy rfl rfl rfl rfl dX12_isRow_70 (fun w1 hp => ?_)
            obtain ⟨Gb137, rfl⟩ := hp
            refine x_iinc C 2 [(4, .int (iN ((k : Int) + 1))), (3, .int (iN (1))), (5, .long (jN (mrw ((100 * d) + (k : Int))))), (0, .ref (a 0)), (1, .int (iN (d))), (2, .int (iN (i)))] rfl rfl (by decide) rfl dX12_isRow_73 ?_
            refine x_goto C 5 (by decide) dX12_isRow_76 ?_
            refine Wx.subL [0, 1, 3, 4, 5] rfl ?_
            have hL : (Lc mh mn (Ct.dy (Ct.days (Lc mh mn mdy mkd mfg mag mpo mwy) k)) mkd mfg mag (Ct.po (Ct.days (Lc mh mn mdy mkd mfg mag mpo mwy) k)) (Ct.wy (Ct.days (Lc mh mn mdy mkd mfg mag mpo mwy) k))) = Ct.days (Lc mh mn mdy mkd mfg mag mpo mwy) k := (Ct.days_same (Lc mh mn mdy mkd mfg mag mpo mwy) k).symm
            refine Wx.eqW (ws' := (WM X.γ a mh mn mkd mfg mag (Ct.po (Ct.days (Lc mh mn mdy mkd mfg mag mpo mwy) (k + 1))) (Ct.wy (Ct.days (Lc mh mn mdy mkd mfg mag mpo mwy) (k + 1))) (Ct.dy (Ct.days (Lc mh mn mdy mkd mfg mag mpo mwy) (k + 1))) mhw mkk mkf mrs mrm mrw mth 0 Gb137 mwa mre mpl mib msn mpn mlo mtl (pck h0 n0 dy0 kd0 fg0 ag0 po0 wy0) mim mhi mp0 mtk mki mun msd mbe)) (by rw [hL]; obtain ⟨e1, e2, e3⟩ := Ct.days_s (Lc mh mn mdy mkd mfg mag mpo mwy) k; rw [e1, e2, e3]; try rfl) ?_
            exact ih5 (k + 1) (Gb137) _ _ (by omega) (by omega) (by omega) (by have hL : (Lc mh mn (Ct.dy (Ct.days (Lc mh mn mdy mkd mfg mag mpo mwy) k)) mkd mfg mag (Ct.po (Ct.days (Lc mh mn mdy mkd mfg mag mpo mwy) k)) (Ct.wy (Ct.days (Lc mh mn mdy mkd mfg mag mpo mwy) k))) = Ct.days (Lc mh mn mdy mkd mfg mag mpo mwy) k := (Ct.days_same (Lc mh mn mdy mkd mfg mag mpo mwy) k).symm; simp only [rok]; rw [← e3_5, if_neg (show ¬ v3_5 = 0 by omega), if_pos (Or.inl c_41)])
          · refine x_lload C 0 rfl dX12_isRow_45 ?_
            refine x_aload_n C 3 rfl rfl dX12_isRow_47 ?_
            refine x_aload_n C 3 rfl rfl dX12_isRow_48 ?_
            refine x_get C in_X12_isRow_X12 0 rfl rfl 5 (by decide) (List.mem_of_getElem? (i := 3) rfl) rfl (v := .ref (a 5)) rfl dX12_isRow_49 ?_
            refine x_iload_n C 5 rfl rfl dX12_isRow_52 ?_
            refine x_iaload C (f := (Ct.po (Ct.days (Lc mh mn mdy mkd mfg mag mpo mwy) k))) 5 rfl (by omega) rfl dX12_isRow_53 ?_
            have b138 := (Ct.days_wf (WFm.L hM mdy) k).po (i)
            refine x_V_I C (As := [.int (iN ((Ct.po (Ct.days (Lc mh mn mdy mkd mfg mag mpo mwy) k)) i))]) (rest := [.long (jN (mrw ((100 * d) + (k : Int))))]) 1 0 rfl rfl gX12_isRow_X12_groundAt rfl (c_X12_groundAt _ _ a mh mn mkd mfg mag (Ct.po (Ct.days (Lc mh mn mdy mkd mfg mag mpo mwy) k)) (Ct.wy (Ct.days (Lc mh mn mdy mkd mfg mag mpo mwy) k)) (Ct.dy (Ct.days (Lc mh mn mdy mkd mfg mag mpo mwy) k)) mhw mkk mkf mrs mrm mrw mth G mwa mre mpl mib msn mpn mlo mtl (pck h0 n0 dy0 kd0 fg0 ag0 po0 wy0) mim mhi mp0 mtk mki mun msd mbe (WFm.pw hM (Ct.days_wf (WFm.L hM mdy) k).po (Ct.days_wf (WFm.L hM mdy) k).wy) ((Ct.po (Ct.days (Lc mh mn mdy mkd mfg mag mpo mwy) k)) i) (by omega)) rfl ok_X12_groundAt rfl rfl rfl rfl dX12_isRow_54 (fun r w1 hp => ?_)
            obtain ⟨rfl, rfl⟩ := hp
            show Wx X 0 0 (WM X.γ a mh mn mkd mfg mag (Ct.po (Ct.days (Lc mh mn mdy mkd mfg mag mpo mwy) k)) (Ct.wy (Ct.days (Lc mh mn mdy mkd mfg mag mpo mwy) k)) (Ct.dy (Ct.days (Lc mh mn mdy mkd mfg mag mpo mwy) k)) mhw mkk mkf mrs mrm mrw mth 0 (Ct.g (Lc mh mn (Ct.dy (Ct.days (Lc mh mn mdy mkd mfg mag mpo mwy) k)) mkd mfg mag (Ct.po (Ct.days (Lc mh mn mdy mkd mfg mag mpo mwy) k)) (Ct.wy (Ct.days (Lc mh mn mdy mkd mfg mag mpo mwy) k)))) mwa mre mpl mib msn mpn mlo mtl (pck h0 n0 dy0 kd0 fg0 ag0 po0 wy0) mim mhi mp0 mtk mki mun msd mbe) 57 [(5, .long (jN (mrw ((100 * d) + (k : Int))))), (4, .int (iN ((k : Int)))), (3, .int (iN (v3_5))), (0, .ref (a 0)), (1, .int (iN (d))), (2, .int (iN (i)))] [.int (iN (Ct.g (Lc mh mn (Ct.dy (Ct.days (Lc mh mn mdy mkd mfg mag mpo mwy) k)) mkd mfg mag (Ct.po (Ct.days (Lc mh mn mdy mkd mfg mag mpo mwy) k)) (Ct.wy (Ct.days (Lc mh mn mdy mkd mfg mag mpo mwy) k))) ((Ct.po (Ct.days (Lc mh mn mdy mkd mfg mag mpo mwy) k)) i))), .long (jN (mrw ((100 * d) + (k : Int))))]
            have b139 := WFc.g (WFm.L (WFm.pw hM (Ct.days_wf (WFm.L hM mdy) k).po (Ct.days_wf (WFm.L hM mdy) k).wy) (Ct.dy (Ct.days (Lc mh mn mdy mkd mfg mag mpo mwy) k))) ((Ct.po (Ct.days (Lc mh mn mdy mkd mfg mag mpo mwy) k)) i)
            refine x_i2l C (by omega) dX12_isRow_57 ?_
            refine x_lcmp_ne C 66 (by decide) (by omega) dX12_isRow_58 dX12_isRow_59 (fun c_58 => ?_) (fun c_58 => ?_)
            · refine x_iconst (v := 0) C dX12_isRow_66 ?_
              refine x_istore_n C [(3, .int (iN (0))), (5, .long (jN (mrw ((100 * d) + (k : Int))))), (4, .int (iN ((k : Int)))), (0, .ref (a 0)), (1, .int (iN (d))), (2, .int (iN (i)))] rfl (by decide) rfl dX12_isRow_67 ?_
              refine x_aload_n C 3 rfl rfl dX12_isRow_68 ?_
              refine x_iconst (v := 0) C dX12_isRow_69 ?_
              refine x_V_V C (As := [.int (iN (0))]) (rest := []) 1 0 rfl rfl gX12_isRow_X12_dayBy rfl (c_X12_dayBy_0 _ _ a mh mn mkd mfg mag (Ct.po (Ct.days (Lc mh mn mdy mkd mfg mag mpo mwy) k)) (Ct.wy (Ct.days (Lc mh mn mdy mkd mfg mag mpo mwy) k)) (Ct.dy (Ct.days (Lc mh mn mdy mkd mfg mag mpo mwy) k)) mhw mkk mkf mrs mrm mrw mth (Ct.g (Lc mh mn (Ct.dy (Ct.days (Lc mh mn mdy mkd mfg mag mpo mwy) k)) mkd mfg mag (Ct.po (Ct.days (Lc mh mn mdy mkd mfg mag mpo mwy) k)) (Ct.wy (Ct.days (Lc mh mn mdy mkd mfg mag mpo mwy) k)))) mwa mre mpl mib msn mpn mlo mtl (pck h0 n0 dy0 kd0 fg0 ag0 po0 wy0) mim mhi mp0 mtk mki mun msd mbe (WFm.pw hM (Ct.days_wf (WFm.L hM mdy) k).po (Ct.days_wf (WFm.L hM mdy) k).wy)) rfl ok_X12_dayBy rfl rfl rfl rfl dX12_isRow_70 (fun w1 hp => ?_)
              obtain ⟨Gb140, rfl⟩ := hp
              refine x_iinc C 2 [(4, .int (iN ((k : Int) + 1))), (3, .int (iN (0))), (5, .long (jN (mrw ((100 * d) + (k : Int))))), (0, .ref (a 0)), (1, .int (iN (d))), (2, .int (iN (i)))] rfl rfl (by decide) rfl dX12_isRow_73 ?_
              refine x_goto C 5 (by decide) dX12_isRow_76 ?_
              refine Wx.subL [0, 1, 3, 4, 5] rfl ?_
              have hL : (Lc mh mn (Ct.dy (Ct.days (Lc mh mn mdy mkd mfg mag mpo mwy) k)) mkd mfg mag (Ct.po (Ct.days (Lc mh mn mdy mkd mfg mag mpo mwy) k)) (Ct.wy (Ct.days (Lc mh mn mdy mkd mfg mag mpo mwy) k))) = Ct.days (Lc mh mn mdy mkd mfg mag mpo mwy) k := (Ct.days_same (Lc mh mn mdy mkd mfg mag mpo mwy) k).symm
              refine Wx.eqW (ws' := (WM X.γ a mh mn mkd mfg mag (Ct.po (Ct.days (Lc mh mn mdy mkd mfg mag mpo mwy) (k + 1))) (Ct.wy (Ct.days (Lc mh mn mdy mkd mfg mag mpo mwy) (k + 1))) (Ct.dy (Ct.days (Lc mh mn mdy mkd mfg mag mpo mwy) (k + 1))) mhw mkk mkf mrs mrm mrw mth 0 Gb140 mwa mre mpl mib msn mpn mlo mtl (pck h0 n0 dy0 kd0 fg0 ag0 po0 wy0) mim mhi mp0 mtk mki mun msd mbe)) (by rw [hL]; obtain ⟨e1, e2, e3⟩ := Ct.days_s (Lc mh mn mdy mkd mfg mag mpo mwy) k; rw [e1, e2, e3]; try rfl) ?_
              exact ih5 (k + 1) (Gb140) _ _ (by omega) (by omega) (by omega) (by have hL : (Lc mh mn (Ct.dy (Ct.days (Lc mh mn mdy mkd mfg mag mpo mwy) k)) mkd mfg mag (Ct.po (Ct.days (Lc mh mn mdy mkd mfg mag mpo mwy) k)) (Ct.wy (Ct.days (Lc mh mn mdy mkd mfg mag mpo mwy) k))) = Ct.days (Lc mh mn mdy mkd mfg mag mpo mwy) k := (Ct.days_same (Lc mh mn mdy mkd mfg mag mpo mwy) k).symm; simp only [rok]; rw [← e3_5, if_neg (show ¬ v3_5 = 0 by omega), if_neg (fun z => z.elim (fun y => c_41 y) (fun y => c_58 (by rw [hL]; exact y)))])
            · refine x_iconst (v := 0) C dX12_isRow_62 ?_
              refine x_goto C 67 (by decide) dX12_isRow_63 ?_
              refine x_istore_n C [(3, .int (iN (1))), (5, .long (jN (mrw ((100 * d) + (k : Int))))), (4, .int (iN ((k : Int)))), (0, .ref (a 0)), (1, .int (iN (d))), (2, .int (iN (i)))] rfl (by decide) rfl dX12_isRow_67 ?_
              refine x_aload_n C 3 rfl rfl dX12_isRow_68 ?_
              refine x_iconst (v := 0) C dX12_isRow_69 ?_
              refine x_V_V C (As := [.int (iN (0))]) (rest := []) 1 0 rfl rfl gX12_isRow_X12_dayBy rfl (c_X12_dayBy_0 _ _ a mh mn mkd mfg mag (Ct.po (Ct.days (Lc mh mn mdy mkd mfg mag mpo mwy) k)) (Ct.wy (Ct.days (Lc mh mn mdy mkd mfg mag mpo mwy) k)) (Ct.dy (Ct.days (Lc mh mn mdy mkd mfg mag mpo mwy) k)) mhw mkk mkf mrs mrm mrw mth (Ct.g (Lc mh mn (Ct.dy (Ct.days (Lc mh mn mdy mkd mfg mag mpo mwy) k)) mkd mfg mag (Ct.po (Ct.days (Lc mh mn mdy mkd mfg mag mpo mwy) k)) (Ct.wy (Ct.days (Lc mh mn mdy mkd mfg mag mpo mwy) k)))) mwa mre mpl mib msn mpn mlo mtl (pck h0 n0 dy0 kd0 fg0 ag0 po0 wy0) mim mhi mp0 mtk mki mun msd mbe (WFm.pw hM (Ct.days_wf (WFm.L hM mdy) k).po (Ct.days_wf (WFm.L hM mdy) k).wy)) rfl ok_X12_dayBy rfl rfl rfl rfl dX12_isRow_70 (fun w1 hp => ?_)
              obtain ⟨Gb141, rfl⟩ := hp
              refine x_iinc C 2 [(4, .int (iN ((k : Int) + 1))), (3, .int (iN (1))), (5, .long (jN (mrw ((100 * d) + (k : Int))))), (0, .ref (a 0)), (1, .int (iN (d))), (2, .int (iN (i)))] rfl rfl (by decide) rfl dX12_isRow_73 ?_
              refine x_goto C 5 (by decide) dX12_isRow_76 ?_
              refine Wx.subL [0, 1, 3, 4, 5] rfl ?_
              have hL : (Lc mh mn (Ct.dy (Ct.days (Lc mh mn mdy mkd mfg mag mpo mwy) k)) mkd mfg mag (Ct.po (Ct.days (Lc mh mn mdy mkd mfg mag mpo mwy) k)) (Ct.wy (Ct.days (Lc mh mn mdy mkd mfg mag mpo mwy) k))) = Ct.days (Lc mh mn mdy mkd mfg mag mpo mwy) k := (Ct.days_same (Lc mh mn mdy mkd mfg mag mpo mwy) k).symm
              refine Wx.eqW (ws' := (WM X.γ a mh mn mkd mfg mag (Ct.po (Ct.days (Lc mh mn mdy mkd mfg mag mpo mwy) (k + 1))) (Ct.wy (Ct.days (Lc mh mn mdy mkd mfg mag mpo mwy) (k + 1))) (Ct.dy (Ct.days (Lc mh mn mdy mkd mfg mag mpo mwy) (k + 1))) mhw mkk mkf mrs mrm mrw mth 0 Gb141 mwa mre mpl mib msn mpn mlo mtl (pck h0 n0 dy0 kd0 fg0 ag0 po0 wy0) mim mhi mp0 mtk mki mun msd mbe)) (by rw [hL]; obtain ⟨e1, e2, e3⟩ := Ct.days_s (Lc mh mn mdy mkd mfg mag mpo mwy) k; rw [e1, e2, e3]; try rfl) ?_
              exact ih5 (k + 1) (Gb141) _ _ (by omega) (by omega) (by omega) (by have hL : (Lc mh mn (Ct.dy (Ct.days (Lc mh mn mdy mkd mfg mag mpo mwy) k)) mkd mfg mag (Ct.po (Ct.days (Lc mh mn mdy mkd mfg mag mpo mwy) k)) (Ct.wy (Ct.days (Lc mh mn mdy mkd mfg mag mpo mwy) k))) = Ct.days (Lc mh mn mdy mkd mfg mag mpo mwy) k := (Ct.days_same (Lc mh mn mdy mkd mfg mag mpo mwy) k).symm; simp only [rok]; rw [← e3_5, if_neg (show ¬ v3_5 = 0 by omega), if_pos (Or.inr (by rw [← hL]; exact c_58))])
  exact LP5 (((mrm d).toNat - (0)) + 1) (0) (mgr) _ _ (by omega) (by omega) (by omega) (rfl)
end HROW
