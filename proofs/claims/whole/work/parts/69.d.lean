set_option maxRecDepth 100000 in
set_option maxHeartbeats 4000000 in
theorem lw_loop {X : CX} (C : Cx X cL_law 8 RL wsL_law room_1) (hz : ZG X.A X.s) (hst : X.l.stackTraces = false) {q0 L : Nat} {xs : Nat → Int32} (hX : SCR X q0 L xs) {b a : Nat → Nat} {o : Nat} (hret : ∀ (k n : Nat) (w : va_W) (Ls : List (Nat × Value)), k ≤ 601024 → n ≤ 7293034 → Wx X k n w 1820 Ls [.int (iN 1)]) : ∀ (f r : Nat), f + r = 513 → 6 * r ≤ L → ∀ w, LI X.γ b a o w → Wx X (83 + r) (2601 + 6 * r) w 23 [(4, .int (iN ((6 * r : Nat) : Int))), (3, .ref o), (2, .ref (a 0)), (1, .ref (b 0)), (0, .ref q0)] []
  | 0, r, hf, hr, _, _ => by
    have h3 : L ≤ 3072 := hX.2.2.2
    omega
  | f + 1, r, hf, hr, w, hI => by
    have h3 : L ≤ 3072 := hX.2.2.2
    refine x_iload C 0 rfl dL_law_23 ?_
    refine x_aload_n C 4 (i := 0) rfl rfl dL_law_25 ?_
    refine x_slen C hX dL_law_26 ?_
    refine x_bipush C (6) (by decide) dL_law_27 ?_
    refine x_isub C dL_law_29 ?_
    refine x_icmp_gt C 1819 (by decide) (by omega) dL_law_30 (fun q => ?_) (fun q => ?_)
    · refine x_iconst (v := 0) C dL_law_1819 ?_
      exact hret _ _ _ _ (by omega) (by omega)
    · have ht : 6 * r + 6 ≤ L := by omega
      refine x_aload_n C 4 (i := 0) rfl rfl dL_law_33 ?_
      refine x_iload C 0 rfl dL_law_34 ?_
      refine x_sld C hX (6 * r) rfl (by omega) dL_law_36 ?_
      refine x_bipush C (63) (by decide) dL_law_37 ?_
      obtain ⟨v, hv⟩ : ∃ v : Int, v = (xs (6 * r) &&& iN 63).toInt := ⟨_, rfl⟩
      have hb : -2147483648 ≤ v ∧ v < 2147483648 := by
        have h1 := Int32.le_toInt (xs (6 * r) &&& iN 63)
        have h2 := Int32.toInt_lt (xs (6 * r) &&& iN 63)
        omega
      refine x_iand C v (by rw [sv_n, hv]; exact (Int32.ofInt_toInt _).symm) dL_law_39 ?_
      have kk : ∀ w9 : va_W, LI X.γ b a o w9 → Wx X (83 + r + 1) (2601 + 6 * r + 6) w9 1813 [(4, .int (iN ((6 * r : Nat) : Int))), (3, .ref o), (2, .ref (a 0)), (1, .ref (b 0)), (0, .ref q0)] [] := fun w9 h9 => by
        refine x_iinc C 0 [(4, .int (iN ((6 * (r + 1) : Nat) : Int))), (3, .ref o), (2, .ref (a 0)), (1, .ref (b 0)), (0, .ref q0)] (b := ((6 * (r + 1) : Nat) : Int)) rfl (by omega) (by decide) rfl dL_law_1813 ?_
        refine x_goto C 23 (by decide) dL_law_1816 ?_
        have h := lw_loop C hz hst hX hret f (r + 1) (by omega) (by omega) w9 h9
        rw [show 2601 + 6 * (r + 1) = 2601 + 6 * r + 6 by omega] at h
        exact h
      rcases (show v = 0 ∨ v = 1 ∨ v = 2 ∨ v = 3 ∨ v = 4 ∨ v = 5 ∨ v = 6 ∨ v = 7 ∨ v = 8 ∨ v = 9 ∨ v = 10 ∨ v = 11 ∨ v = 12 ∨ v = 13 ∨ v = 14 ∨ v = 15 ∨ v = 16 ∨ v = 17 ∨ v = 18 ∨ v = 19 ∨ v = 20 ∨ v = 21 ∨ v = 22 ∨ v = 23 ∨ v = 24 ∨ v = 25 ∨ v = 26 ∨ v = 27 ∨ v = 28 ∨ v = 29 ∨ v = 30 ∨ v = 31 ∨ v = 32 ∨ v = 33 ∨ v = 34 ∨ v = 35 ∨ v = 36 ∨ v = 37 ∨ v = 38 ∨ v = 39 ∨ v = 40 ∨ v = 41 ∨ v = 42 ∨ v = 43 ∨ v = 44 ∨ (v < 0 ∨ 44 < v) by omega) with s0 | s0 | s0 | s0 | s0 | s0 | s0 | s0 | s0 | s0 | s0 | s0 | s0 | s0 | s0 | s0 | s0 | s0 | s0 | s0 | s0 | s0 | s0 | s0 | s0 | s0 | s0 | s0 | s0 | s0 | s0 | s0 | s0 | s0 | s0 | s0 | s0 | s0 | s0 | s0 | s0 | s0 | s0 | s0 | s0 | s0
      · refine x_tabIn C 236 (196) hb (by omega) (by omega) (by rw [s0]; rfl) (by decide) dL_law_40 ?_
        exact lw_c0 C hz hst hX ht (by omega) (by omega) hI kk
      · refine x_tabIn C 261 (221) hb (by omega) (by omega) (by rw [s0]; rfl) (by decide) dL_law_40 ?_
        exact lw_c1 C hz hst hX ht (by omega) (by omega) hI kk
      · refine x_tabIn C 298 (258) hb (by omega) (by omega) (by rw [s0]; rfl) (by decide) dL_law_40 ?_
        exact lw_c2 C hz hst hX ht (by omega) (by omega) hI kk
      · refine x_tabIn C 323 (283) hb (by omega) (by omega) (by rw [s0]; rfl) (by decide) dL_law_40 ?_
        exact lw_c3 C hz hst hX ht (by omega) (by omega) hI kk
      · refine x_tabIn C 372 (332) hb (by omega) (by omega) (by rw [s0]; rfl) (by decide) dL_law_40 ?_
        exact lw_c4 C hz hst hX ht (by omega) (by omega) hI kk
      · refine x_tabIn C 409 (369) hb (by omega) (by omega) (by rw [s0]; rfl) (by decide) dL_law_40 ?_
        exact lw_c5 C hz hst hX ht (by omega) (by omega) hI kk
      · refine x_tabIn C 446 (406) hb (by omega) (by omega) (by rw [s0]; rfl) (by decide) dL_law_40 ?_
        exact lw_c6 C hz hst hX ht (by omega) (by omega) hI kk
      · refine x_tabIn C 483 (443) hb (by omega) (by omega) (by rw [s0]; rfl) (by decide) dL_law_40 ?_
        exact lw_c7 C hz hst hX ht (by omega) (by omega) hI kk
      · refine x_tabIn C 508 (468) hb (by omega) (by omega) (by rw [s0]; rfl) (by decide) dL_law_40 ?_
        exact lw_c8 C hz hst hX ht (by omega) (by omega) hI kk
      · refine x_tabIn C 533 (493) hb (by omega) (by omega) (by rw [s0]; rfl) (by decide) dL_law_40 ?_
        exact lw_c9 C hz hst hX ht (by omega) (by omega) hI kk
      · refine x_tabIn C 558 (518) hb (by omega) (by omega) (by rw [s0]; rfl) (by decide) dL_law_40 ?_
        exact lw_c10 C hz hst hX ht (by omega) (by omega) hI kk
      · refine x_tabIn C 571 (531) hb (by omega) (by omega) (by rw [s0]; rfl) (by decide) dL_law_40 ?_
        exact lw_c11 C hz hst hX ht (by omega) (by omega) hI kk
      · refine x_tabIn C 596 (556) hb (by omega) (by omega) (by rw [s0]; rfl) (by decide) dL_law_40 ?_
        exact lw_c12 C hz hst hX ht (by omega) (by omega) hI kk
      · refine x_tabIn C 621 (581) hb (by omega) (by omega) (by rw [s0]; rfl) (by decide) dL_law_40 ?_
        exact lw_c13 C hz hst hX ht (by omega) (by omega) hI kk
      · refine x_tabIn C 658 (618) hb (by omega) (by omega) (by rw [s0]; rfl) (by decide) dL_law_40 ?_
        exact lw_c14 C hz hst hX ht (by omega) (by omega) hI kk
      · refine x_tabIn C 695 (655) hb (by omega) (by omega) (by rw [s0]; rfl) (by decide) dL_law_40 ?_
        exact lw_c15 C hz hst hX ht (by omega) (by omega) hI kk
      · refine x_tabIn C 732 (692) hb (by omega) (by omega) (by rw [s0]; rfl) (by decide) dL_law_40 ?_
        exact lw_c16 C hz hst hX ht (by omega) (by omega) hI kk
      · refine x_tabIn C 757 (717) hb (by omega) (by omega) (by rw [s0]; rfl) (by decide) dL_law_40 ?_
        exact lw_c17 C hz hst hX ht (by omega) (by omega) hI kk
      · refine x_tabIn C 794 (754) hb (by omega) (by omega) (by rw [s0]; rfl) (by decide) dL_law_40 ?_
        exact lw_c18 C hz hst hX ht (by omega) (by omega) hI kk
      · refine x_tabIn C 831 (791) hb (by omega) (by omega) (by rw [s0]; rfl) (by decide) dL_law_40 ?_
        exact lw_c19 C hz hst hX ht (by omega) (by omega) hI kk
      · refine x_tabIn C 868 (828) hb (by omega) (by omega) (by rw [s0]; rfl) (by decide) dL_law_40 ?_
        exact lw_c20 C hz hst hX ht (by omega) (by omega) hI kk
      · refine x_tabIn C 917 (877) hb (by omega) (by omega) (by rw [s0]; rfl) (by decide) dL_law_40 ?_
        exact lw_c21 C hz hst hX ht (by omega) (by omega) hI kk
      · refine x_tabIn C 954 (914) hb (by omega) (by omega) (by rw [s0]; rfl) (by decide) dL_law_40 ?_
        exact lw_c22 C hz hst hX ht (by omega) (by omega) hI kk
      · refine x_tabIn C 979 (939) hb (by omega) (by omega) (by rw [s0]; rfl) (by decide) dL_law_40 ?_
        exact lw_c23 C hz hst hX ht (by omega) (by omega) hI kk
      · refine x_tabIn C 992 (952) hb (by omega) (by omega) (by rw [s0]; rfl) (by decide) dL_law_40 ?_
        exact lw_c24 C hz hst hX ht (by omega) (by omega) hI kk
      · refine x_tabIn C 1005 (965) hb (by omega) (by omega) (by rw [s0]; rfl) (by decide) dL_law_40 ?_
        exact lw_c25 C hz hst hX ht (by omega) (by omega) hI kk
      · refine x_tabIn C 1030 (990) hb (by omega) (by omega) (by rw [s0]; rfl) (by decide) dL_law_40 ?_
        exact lw_c26 C hz hst hX ht (by omega) (by omega) hI kk
      · refine x_tabIn C 1079 (1039) hb (by omega) (by omega) (by rw [s0]; rfl) (by decide) dL_law_40 ?_
        exact lw_c27 C hz hst hX ht (by omega) (by omega) hI kk
      · refine x_tabIn C 1128 (1088) hb (by omega) (by omega) (by rw [s0]; rfl) (by decide) dL_law_40 ?_
        exact lw_c28 C hz hst hX ht (by omega) (by omega) hI kk
      · refine x_tabIn C 1165 (1125) hb (by omega) (by omega) (by rw [s0]; rfl) (by decide) dL_law_40 ?_
        exact lw_c29 C hz hst hX ht (by omega) (by omega) hI kk
      · refine x_tabIn C 1239 (1199) hb (by omega) (by omega) (by rw [s0]; rfl) (by decide) dL_law_40 ?_
        exact lw_c30 C hz hst hX ht (by omega) (by omega) hI kk
      · refine x_tabIn C 1265 (1225) hb (by omega) (by omega) (by rw [s0]; rfl) (by decide) dL_law_40 ?_
        exact lw_c31 C hz hst hX ht (by omega) (by omega) hI kk
      · refine x_tabIn C 1314 (1274) hb (by omega) (by omega) (by rw [s0]; rfl) (by decide) dL_law_40 ?_
        exact lw_c32 C hz hst hX ht (by omega) (by omega) hI kk
      · refine x_tabIn C 1339 (1299) hb (by omega) (by omega) (by rw [s0]; rfl) (by decide) dL_law_40 ?_
        exact lw_c33 C hz hst hX ht (by omega) (by omega) hI kk
      · refine x_tabIn C 1364 (1324) hb (by omega) (by omega) (by rw [s0]; rfl) (by decide) dL_law_40 ?_
        exact lw_c34 C hz hst hX ht (by omega) (by omega) hI kk
      · refine x_tabIn C 1413 (1373) hb (by omega) (by omega) (by rw [s0]; rfl) (by decide) dL_law_40 ?_
        exact lw_c35 C hz hst hX ht (by omega) (by omega) hI kk
      · refine x_tabIn C 1426 (1386) hb (by omega) (by omega) (by rw [s0]; rfl) (by decide) dL_law_40 ?_
        exact lw_c36 C hz hst hX ht (by omega) (by omega) hI kk
      · refine x_tabIn C 1439 (1399) hb (by omega) (by omega) (by rw [s0]; rfl) (by decide) dL_law_40 ?_
        exact lw_c37 C hz hst hX ht (by omega) (by omega) hI kk
      · refine x_tabIn C 1464 (1424) hb (by omega) (by omega) (by rw [s0]; rfl) (by decide) dL_law_40 ?_
        exact lw_c38 C hz hst hX ht (by omega) (by omega) hI kk
      · refine x_tabIn C 1525 (1485) hb (by omega) (by omega) (by rw [s0]; rfl) (by decide) dL_law_40 ?_
        exact lw_c39 C hz hst hX ht (by omega) (by omega) hI kk
      · refine x_tabIn C 1574 (1534) hb (by omega) (by omega) (by rw [s0]; rfl) (by decide) dL_law_40 ?_
        exact lw_c40 C hz hst hX ht (by omega) (by omega) hI kk
      · refine x_tabIn C 1623 (1583) hb (by omega) (by omega) (by rw [s0]; rfl) (by decide) dL_law_40 ?_
        exact lw_c41 C hz hst hX ht (by omega) (by omega) hI kk
      · refine x_tabIn C 1690 (1650) hb (by omega) (by omega) (by rw [s0]; rfl) (by decide) dL_law_40 ?_
        exact lw_c42 C hz hst hX ht (by omega) (by omega) hI kk
      · refine x_tabIn C 1763 (1723) hb (by omega) (by omega) (by rw [s0]; rfl) (by decide) dL_law_40 ?_
        exact lw_c43 C hz hst hX ht (by omega) (by omega) hI kk
      · refine x_tabIn C 1788 (1748) hb (by omega) (by omega) (by rw [s0]; rfl) (by decide) dL_law_40 ?_
        exact lw_c44 C hz hst hX ht (by omega) (by omega) hI kk
      · refine x_tabOut C 1813 hb s0 (by decide) dL_law_40 ?_
        refine Wx.widen (k' := 83 + r + 1) (n' := 2601 + 6 * r + 6) (by omega) (by omega) ?_
        exact kk w hI
