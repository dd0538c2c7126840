section HXBaa
theorem nat_wf {C : Ct} (hW : WFc C) {i k fg ag : Int} (hk : 0 ≤ k ∧ k ≤ 7) (hf : 0 ≤ fg ∧ fg ≤ 9) (ha : 0 ≤ ag ∧ ag ≤ 120) : WFc (Ct.nat C i k fg ag) :=
  WFc.mk (C := Ct.nat C i k fg ag) hW.n hW.h (bd_upz hW.kd hk) (bd_upz hW.fg hf) (bd_upz hW.ag ha) hW.po hW.wy (bd_upz hW.pr (prF_b hf ha)) (bd_upz hW.sp (spF_b k)) (bd_upz hW.sr (srF_b hf))
theorem rok_y {C : Ct} {so i : Int} {f : Int → Int} {k : Nat} (h : rok C so i f k = 1) (h1 : f (k : Int) = lsz so ∨ f (k : Int) = Ct.g (Ct.days C k) (Ct.po (Ct.days C k) i)) : rok C so i f (k + 1) = 1 := by
  simp only [rok]
  rw [if_neg (by omega), if_pos h1]
theorem rok_n {C : Ct} {so i : Int} {f : Int → Int} {k : Nat} (h : rok C so i f k = 1) (h1 : ¬ (f (k : Int) = lsz so ∨ f (k : Int) = Ct.g (Ct.days C k) (Ct.po (Ct.days C k) i))) : rok C so i f (k + 1) = 0 := by
  simp only [rok]
  rw [if_neg (by omega), if_neg h1]
/-- how far the days are, and whether someone still goes -/
def tld (C : Ct) (k e : Nat) (s : Int) : Prop := (s = 1 ∧ e = k - 1) ∨ (s = 0 ∧ e ≤ k - 1 ∧ ∀ t, e ≤ t → Ct.po (Ct.days C t) = Ct.po (Ct.days C e))
theorem tld_01 {C : Ct} {k e : Nat} {s : Int} (h : tld C k e s) : (s = 0 ∨ s = 1) ∧ e ≤ k - 1 := by
  rcases h with ⟨h1, h2⟩ | ⟨h1, h2, _⟩ <;> omega
theorem tld_a {C : Ct} {e : Nat} {s : Int} (h : tld C 0 e s) : tld C (0 + 1) e s ∧ Ct.po (Ct.days C 0) = Ct.po (Ct.days C e) := by
  rcases h with ⟨h1, h2⟩ | ⟨h1, h2, h3⟩
  · have : e = 0 := by omega
    subst this
    exact ⟨Or.inl ⟨h1, rfl⟩, rfl⟩
  · have : e = 0 := by omega
    subst this
    exact ⟨Or.inr ⟨h1, by omega, h3⟩, rfl⟩
theorem tld_b {C : Ct} {k e : Nat} {s : Int} (hk : 0 < k) (h : tld C k e s) (hs : s = 0) : tld C (k + 1) e s ∧ Ct.po (Ct.days C k) = Ct.po (Ct.days C e) := by
  rcases h with ⟨h1, h2⟩ | ⟨h1, h2, h3⟩
  · omega
  · exact ⟨Or.inr ⟨h1, by omega, h3⟩, h3 k (by omega)⟩
theorem tld_c {C : Ct} (hn : 0 ≤ Ct.n C) {k e : Nat} {s f : Int} (hk : 0 < k) (h : tld C k e s) (hs : s ≠ 0) (hf : (Ct.D (Ct.days C e) (Ct.n (Ct.days C e)).toNat).2.2 = f) (h01 : f = 0 ∨ f = 1) : tld C (k + 1) (e + 1) f ∧ Ct.po (Ct.days C k) = Ct.po (Ct.days C (e + 1)) := by
  rcases h with ⟨h1, h2⟩ | ⟨h1, h2, h3⟩
  · have he : e + 1 = k := by omega
    refine ⟨?_, by rw [he]⟩
    rcases h01 with q | q
    · right
      have hst := stay_days hn (hf.trans q)
      refine ⟨q, by omega, fun t ht => ?_⟩
      rw [hst t (by omega), hst (e + 1) (by omega)]
    · exact Or.inl ⟨q, by omega⟩
  · omega
theorem in_X11_isAsToldBy_X1 : ∀ w ∈ u_ws RX1 TX1 13, w ∈ wsX11_isAsToldBy := by decide +kernel
theorem in_X11_isAsToldBy_X11 : ∀ w ∈ u_ws RX11 TX11 6, w ∈ wsX11_isAsToldBy := by decide +kernel
theorem in_X11_isAsToldBy_X5 : ∀ w ∈ u_ws RX5 TX5 6, w ∈ wsX11_isAsToldBy := by decide +kernel
theorem ok_X11_isAsToldBy : okY yX11_isAsToldBy 5 := by decide +kernel
def rmX11_isAsToldBy : Room := { frames := 4, cells := 0, slots := 0, locals := 106 }
set_option maxRecDepth 100000 in
set_option maxHeartbeats 400000 in
theorem c_X11_isAsToldBy (l : Launch) (γ : GX) (b : Nat → Nat) (F : Nat → Sh) (N M P : Ct) (hp sd : Int) (hN : WFc N) (hF : ∀ t : Nat, t < 8 → WFs (F t)) (d : Int) (i : Int) (k : Int) (fg : Int) (ag : Int) (h0_ : 0 ≤ d ∧ d ≤ 7) (h1_ : 0 ≤ i ∧ i < 6) (h2_ : 0 ≤ k ∧ k ≤ 7) (h3_ : 0 ≤ fg ∧ fg ≤ 9) (h4_ : 0 ≤ ag ∧ ag ≤ 120) : MI l γ yX11_isAsToldBy wsX11_isAsToldBy rmX11_isAsToldBy [.ref (b 0), .int (iN (d)), .int (iN (i)), .int (iN (k)), .int (iN (fg)), .int (iN (ag))] (WX γ b F N M P hp sd) (fun r_ w_ => r_ = rok (Ct.nat N i k fg ag) (Sh.so (F d.toNat)) i (Sh.va (F d.toNat)) (Sh.sz (F d.toNat)).toNat ∧ ∃ M2, w_ = WX γ b F N M2 P hp sd) 0 0 := by
  refine MI.of (cc := cX11_isAsToldBy) (maxL := 9) (rt := .boolean) RX11 rfl (by decide +kernel) rfl (Nat.le_of_ble_eq_true rfl) ?_
  intro X C hγ hl hnm hret
  subst hγ
  have hNn := WFc.n hN
  have hFd := hF d.toNat (by omega)
  have hSz := WFs.sz hFd
  have hNat := nat_wf hN (i := i) h2_ h3_ h4_
  show Wx X 0 0 (WX X.γ b F N M P hp sd) 0 [(0, .ref (b 0)), (1, .int (iN (d))), (2, .int (iN (i))), (3, .int (iN (k))), (4, .int (iN (fg))), (5, .int (iN (ag)))] []
  refine x_aload_n C 0 rfl rfl dX11_isAsToldBy_0 ?_
  refine x_get C in_X11_isAsToldBy_X11 0 rfl rfl 2 (by decide) (List.mem_of_getElem? (i := 1) rfl) rfl (v := .ref (b 38)) rfl dX11_isAsToldBy_1 ?_
  refine x_aload_n C 0 rfl rfl dX11_isAsToldBy_4 ?_
  refine x_get C in_X11_isAsToldBy_X11 0 rfl rfl 1 (by decide) (List.mem_of_getElem? (i := 2) rfl) rfl (v := .ref (b 27)) rfl dX11_isAsToldBy_5 ?_
  refine x_V_V C (As := [.ref (b 27)]) (rest := []) 1 38 rfl rfl gX11_isAsToldBy_X1_become rfl (MV.bMN b F N M P hp sd (fun Z => Z = Ct.set_wa N (Ct.wa M)) (c_X1_become _ _ (adM b) (adN b) M N) (fun w h => ⟨_, rfl, h⟩)) rfl ok_X1_become rfl rfl rfl rfl dX11_isAsToldBy_8 (fun w1 hp => ?_)
  obtain ⟨_, rfl, rfl⟩ := hp
  refine Wx.eqW (ws' := (WX X.γ b F N (Ct.set_wa N (Ct.wa M)) P hp sd)) rfl ?_
  refine x_aload_n C 0 rfl rfl dX11_isAsToldBy_11 ?_
  refine x_get C in_X11_isAsToldBy_X11 0 rfl rfl 2 (by decide) (List.mem_of_getElem? (i := 1) rfl) rfl (v := .ref (b 38)) rfl dX11_isAsToldBy_12 ?_
  refine x_iload_n C 2 rfl rfl dX11_isAsToldBy_15 ?_
  refine x_iload_n C 3 rfl rfl dX11_isAsToldBy_16 ?_
  refine x_iload C 4 rfl dX11_isAsToldBy_17 ?_
  refine x_iload C 5 rfl dX11_isAsToldBy_19 ?_
  refine x_V_I C (As := [.int (iN (i)), .int (iN (k)), .int (iN (fg)), .int (iN (ag))]) (rest := []) 4 38 rfl rfl gX11_isAsToldBy_X1_setNature rfl (MI.kM b F N (Ct.set_wa N (Ct.wa M)) P hp sd (fun r Z => (((0 ≤ i ∧ i ≤ 5) ∧ (0 ≤ k ∧ k ≤ 7) ∧ (0 ≤ fg ∧ fg ≤ 9) ∧ 0 ≤ ag ∧ ag ≤ 120) ∧ r = 1 ∧ (Ct.set_wa (Ct.set_sr (Ct.set_sp (Ct.set_pr (Ct.set_ag (Ct.set_fg (Ct.set_kd N (upz (Ct.kd N) i k)) (upz (Ct.fg N) i fg)) (upz (Ct.ag N) i ag)) (upz (Ct.pr N) i (prF k fg ag))) (upz (Ct.sp N) i (spF k))) (upz (Ct.sr N) i (srF k fg))) (Ct.wa M)) = Z) ∨ (¬ ((0 ≤ i ∧ i ≤ 5) ∧ (0 ≤ k ∧ k ≤ 7) ∧ (0 ≤ fg ∧ fg ≤ 9) ∧ 0 ≤ ag ∧ ag ≤ 120) ∧ r = 0 ∧ (Ct.set_wa N (Ct.wa M)) = Z)) (c_X1_setNature _ _ (adM b) (Ct.set_wa N (Ct.wa M)) hN (i) (k) (fg) (ag) (by omega) (by omega) (by omega) (by omega)) (fun r w h => h.elim (fun h => ⟨_, Or.inl ⟨h.1, h.2.1, rfl⟩, h.2.2⟩) (fun h => ⟨_, Or.inr ⟨h.1, h.2.1, rfl⟩, h.2.2⟩))) rfl ok_X1_setNature rfl rfl rfl rfl dX11_isAsToldBy_21 (fun r w1 hp => ?_)
  rcases hp with ⟨_, (⟨hp1, rfl, rfl⟩ | ⟨hp1, rfl, rfl⟩), rfl⟩
  · refine Wx.eqW (ws' := (WX X.γ b F N (Ct.set_wa (Ct.nat N i k fg ag) (Ct.wa M)) P hp sd)) (rfl) ?_
    refine x_pop C rfl dX11_isAsToldBy_24 ?_
    refine x_aload_n C 0 rfl rfl dX11_isAsToldBy_25 ?_
    refine x_get C in_X11_isAsToldBy_X11 0 rfl rfl 0 (by decide) (List.mem_of_getElem? (i := 3) rfl) rfl (v := .ref (b 1)) rfl dX11_isAsToldBy_26 ?_
    refine x_iload_n C 1 rfl rfl dX11_isAsToldBy_29 ?_
    refine x_aaload C (f := fun k => some (b (2 + 2 * k.toNat))) (b := b (2 + 2 * d.toNat)) 1 rfl (by omega) rfl rfl dX11_isAsToldBy_30 ?_
    refine x_astore C [(6, .ref (b (2 + 2 * d.toNat))), (0, .ref (b 0)), (1, .int (iN (d))), (2, .int (iN (i))), (3, .int (iN (k))), (4, .int (iN (fg))), (5, .int (iN (ag)))] (by decide) rfl dX11_isAsToldBy_31 ?_
    refine x_iconst (v := 0) C dX11_isAsToldBy_33 ?_
    refine x_istore C [(7, .int (iN (1))), (6, .ref (b (2 + 2 * d.toNat))), (0, .ref (b 0)), (1, .int (iN (d))), (2, .int (iN (i))), (3, .int (iN (k))), (4, .int (iN (fg))), (5, .int (iN (ag)))] (by decide) rfl dX11_isAsToldBy_34 ?_
    refine x_iconst (v := 0) C dX11_isAsToldBy_36 ?_
    refine x_istore C [(8, .int (iN (0))), (7, .int (iN (1))), (6, .ref (b (2 + 2 * d.toNat))), (0, .ref (b 0)), (1, .int (iN (d))), (2, .int (iN (i))), (3, .int (iN (k))), (4, .int (iN (fg))), (5, .int (iN (ag)))] (by decide) rfl dX11_isAsToldBy_37 ?_
    have LP39 : ∀ (f : Nat) (m : Nat) (e : Nat) (WA : Int → Int) (v8_39 : Int) (v7_39 : Int), ((Sh.sz (F d.toNat)).toNat - m < f) → (m ≤ (Sh.sz (F d.toNat)).toNat) → (tld (Ct.nat N i k fg ag) m e v7_39) → (hid (rok (Ct.nat N i k fg ag) (Sh.so (F d.toNat)) i (Sh.va (F d.toNat)) m = 1)) → (((m : Int)) = v8_39) → Wx X 0 0 (WX X.γ b F N (Ct.set_wa (Ct.days (Ct.nat N i k fg ag) e) (WA)) P hp sd) 39 [(8, .int (iN (v8_39))), (7, .int (iN (v7_39))), (6, .ref (b (2 + 2 * d.toNat))), (0, .ref (b 0)), (1, .int (iN (d))), (2, .int (iN (i))), (3, .int (iN (k))), (4, .int (iN (fg))), (5, .int (iN (ag)))] [] := by
      intro f
      induction f with
      | zero => intro m e WA v8_39 v7_39 hf; exact absurd hf (Nat.not_lt_zero _)
      | succ f ih39 =>
        intro m e WA v8_39 v7_39 hf hk hI hr e8_39
        subst e8_39
        have hb := tld_01 hI
        refine x_iload C 0 rfl dX11_isAsToldBy_39 ?_
        refine x_aload C 2 rfl dX11_isAsToldBy_41 ?_
        refine x_get C in_X11_isAsToldBy_X5 (2 + 2 * d.toNat) (WX_so _ _ _ _ _ _ _ (show d.toNat < 8 by omega)) rfl 4 (by decide) (List.mem_of_getElem? (i := 4) rfl) rfl (v := .int (iN (Sh.sz (F d.toNat)))) rfl dX11_isAsToldBy_43 ?_
        refine x_icmp_ge C 113 (by decide) (by omega) dX11_isAsToldBy_46 (fun c_46 => ?_) (fun c_46 => ?_)
        · refine x_iconst (v := 0) C dX11_isAsToldBy_113 ?_
          exact hret _ _ _ _ dX11_isAsToldBy_114 (nar_z (by decide)) ⟨(by have hr : _ = _ := hr; rw [show (Sh.sz (F d.toNat)).toNat = m by omega, hr]), _, rfl⟩
        · refine x_iload C 0 rfl dX11_isAsToldBy_49 ?_
          refine x_if_le C 68 (by decide) (by omega) dX11_isAsToldBy_51 (fun c_51 => ?_) (fun c_51 => ?_)
          · have hz0 : m = 0 := by omega
            subst hz0
            have hT := tld_a hI
            have hgg := fun c => days_g (Ct.nat N i k fg ag) e 0 hT.2.symm c
            refine x_aload C 2 rfl dX11_isAsToldBy_68 ?_
            refine x_iload C 0 rfl dX11_isAsToldBy_70 ?_
            refine x_V_I C (As := [.int (iN (((0 : Nat) : Int)))]) (rest := []) 1 (2 + 2 * d.toNat) (WX_so _ _ _ _ _ _ _ (show d.toNat < 8 by omega)) rfl gX11_isAsToldBy_X5_skips rfl (MI.shr b F N (Ct.set_wa (Ct.days (Ct.nat N i k fg ag) e) (WA)) P hp sd d.toNat (show d.toNat < 8 by omega) (fun r => r = (bz (Sh.va (F d.toNat) (((0 : Nat) : Int)) = lsz (Sh.so (F d.toNat))))) (c_X5_skips _ _ (saD b d.toNat) (F d.toNat) (hF d.toNat (by omega)) (((0 : Nat) : Int)) (by omega)) (fun r w h => ⟨h.1, h.2⟩)) rfl ok_X5_skips rfl rfl rfl rfl dX11_isAsToldBy_72 (fun r w1 hp => ?_)
            obtain ⟨rfl, rfl⟩ := hp
            refine x_ifne_bz C 107 (by decide) dX11_isAsToldBy_75 (fun c_75 => ?_) (fun c_75 => ?_)
            · refine x_iinc C 0 [(8, .int (iN (((0 : Nat) : Int) + 1))), (7, .int (iN (v7_39))), (6, .ref (b (2 + 2 * d.toNat))), (0, .ref (b 0)), (1, .int (iN (d))), (2, .int (iN (i))), (3, .int (iN (k))), (4, .int (iN (fg))), (5, .int (iN (ag)))] rfl rfl (by decide) rfl dX11_isAsToldBy_107 ?_
              refine x_goto C 39 (by decide) dX11_isAsToldBy_110 ?_
              exact ih39 (0 + 1) (e) (WA) _ _ (by omega) (by omega) (hT.1) (rok_y hr (Or.inl c_75)) (by omega)
            · refine x_aload C 2 rfl dX11_isAsToldBy_78 ?_
              refine x_get C in_X11_isAsToldBy_X5 (2 + 2 * d.toNat) (WX_so _ _ _ _ _ _ _ (show d.toNat < 8 by omega)) rfl 5 (by decide) (List.mem_of_getElem? (i := 5) rfl) rfl (v := .ref (b (3 + 2 * d.toNat))) rfl dX11_isAsToldBy_80 ?_
              refine x_iload C 0 rfl dX11_isAsToldBy_83 ?_
              refine x_iaload C (f := (Sh.va (F d.toNat))) (3 + 2 * d.toNat) (WX_sv _ _ _ _ _ _ _ (show d.toNat < 8 by omega)) (by omega) rfl dX11_isAsToldBy_85 ?_
              have b71 := WFs.va (hF d.toNat (by omega)) (((0 : Nat) : Int))
              refine x_aload_n C 3 rfl rfl dX11_isAsToldBy_86 ?_
              refine x_get C in_X11_isAsToldBy_X11 0 rfl rfl 2 (by decide) (List.mem_of_getElem? (i := 1) rfl) rfl (v := .ref (b 38)) rfl dX11_isAsToldBy_87 ?_
              refine x_aload_n C 3 rfl rfl dX11_isAsToldBy_90 ?_
              refine x_get C in_X11_isAsToldBy_X11 0 rfl rfl 2 (by decide) (List.mem_of_getElem? (i := 1) rfl) rfl (v := .ref (b 38)) rfl dX11_isAsToldBy_91 ?_
              refine x_get C in_X11_isAsToldBy_X1 38 rfl rfl 7 (by decide) (List.mem_of_getElem? (i := 6) rfl) rfl (v := .ref (b 43)) rfl dX11_isAsToldBy_94 ?_
              refine x_iload_n C 5 rfl rfl dX11_isAsToldBy_97 ?_
              refine x_iaload C (f := Ct.po (Ct.days (Ct.nat N i k fg ag) e)) 43 rfl (by omega) rfl dX11_isAsToldBy_98 ?_
              have b72 := WFc.po (Ct.days_wf hNat e) (i)
              refine x_V_I C (As := [.int (iN (Ct.po (Ct.days (Ct.nat N i k fg ag) e) i))]) (rest := [.int (iN ((Sh.va (F d.toNat)) ((0 : Nat) : Int)))]) 1 38 rfl rfl gX11_isAsToldBy_X1_level rfl (MI.fM b F N (Ct.set_wa (Ct.days (Ct.nat N i k fg ag) e) (WA)) P hp sd (fun r Z => r = (Ct.g (Ct.days (Ct.nat N i k fg ag) e) (Ct.po (Ct.days (Ct.nat N i k fg ag) e) i)) ∧ (Ct.set_wa (Ct.days (Ct.nat N i k fg ag) e) (WA)) = Z) (c_X1_level _ _ (adM b) (Ct.set_wa (Ct.days (Ct.nat N i k fg ag) e) (WA)) (Ct.days_wf hNat e) (Ct.po (Ct.days (Ct.nat N i k fg ag) e) i) (by omega)) (fun r w h => ⟨_, ⟨h.1, rfl⟩, h.2⟩)) rfl ok_X1_level rfl rfl rfl rfl dX11_isAsToldBy_99 (fun r w1 hp => ?_)
              obtain ⟨_, ⟨rfl, rfl⟩, rfl⟩ := hp
              show Wx X 0 0 (WX X.γ b F N (Ct.set_wa (Ct.days (Ct.nat N i k fg ag) e) (WA)) P hp sd) 102 [(8, .int (iN (((0 : Nat) : Int)))), (7, .int (iN (v7_39))), (6, .ref (b (2 + 2 * d.toNat))), (0, .ref (b 0)), (1, .int (iN (d))), (2, .int (iN (i))), (3, .int (iN (k))), (4, .int (iN (fg))), (5, .int (iN (ag)))] [.int (iN (Ct.g (Ct.days (Ct.nat N i k fg ag) e) (Ct.po (Ct.days (Ct.nat N i k fg ag) e) i))), .int (iN ((Sh.va (F d.toNat)) ((0 : Nat) : Int)))]
              show Wx X 0 0 (WX X.γ b F N (Ct.set_wa (Ct.days (Ct.nat N i k fg ag) e) (WA)) P hp sd) 102 [(8, .int (iN (((0 : Nat) : Int)))), (7, .int (iN (v7_39))), (6, .ref (b (2 + 2 * d.toNat))), (0, .ref (b 0)), (1, .int (iN (d))), (2, .int (iN (i))), (3, .int (iN (k))), (4, .int (iN (fg))), (5, .int (iN (ag)))] [.int (iN (Ct.g (Ct.days (Ct.nat N i k fg ag) e) (Ct.po (Ct.days (Ct.nat N i k fg ag) e) i))), .int (iN ((Sh.va (F d.toNat)) ((0 : Nat) : Int)))]
              have b73 := WFc.g (Ct.days_wf hNat e) (Ct.po (Ct.days (Ct.nat N i k fg ag) e) i)
              refine x_icmp_eq C 107 (by decide) (by omega) dX11_isAsToldBy_102 (fun c_102 => ?_) (fun c_102 => ?_)
              · refine x_iinc C 0 [(8, .int (iN (((0 : Nat) : Int) + 1))), (7, .int (iN (v7_39))), (6, .ref (b (2 + 2 * d.toNat))), (0, .ref (b 0)), (1, .int (iN (d))), (2, .int (iN (i))), (3, .int (iN (k))), (4, .int (iN (fg))), (5, .int (iN (ag)))] rfl rfl (by decide) rfl dX11_isAsToldBy_107 ?_
                refine x_goto C 39 (by decide) dX11_isAsToldBy_110 ?_
                exact ih39 (0 + 1) (e) (WA) _ _ (by omega) (by omega) (hT.1) (rok_y hr (Or.inr (by rw [← hgg, hT.2]; exact c_102))) (by omega)
              · refine x_iconst (v := 0) C dX11_isAsToldBy_105 ?_
                exact hret _ _ _ _ dX11_isAsToldBy_106 (nar_z (by decide)) ⟨(by have hr : _ = _ := hr; have h0 : rok (Ct.nat N i k fg ag) (Sh.so (F d.toNat)) i (Sh.va (F d.toNat)) (0 + 1) = 0 := rok_n hr (fun z => z.elim (fun y => c_75 y) (fun y => c_102 (by rw [← hgg, hT.2] at y; exact y))); have h1 := rok_stay h0 ((Sh.sz (F d.toNat)).toNat - (0 + 1)); rw [show 0 + 1 + ((Sh.sz (F d.toNat)).toNat - (0 + 1)) = (Sh.sz (F d.toNat)).toNat by omega] at h1; exact h1.symm), _, rfl⟩
          · refine x_iload C 1 rfl dX11_isAsToldBy_54 ?_
            refine x_if_eq C 68 (by decide) (by omega) dX11_isAsToldBy_56 (fun c_56 => ?_) (fun c_56 => ?_)
            · have hT := tld_b (by omega) hI (by omega)
              have hgg := fun c => days_g (Ct.nat N i k fg ag) e m hT.2.symm c
              refine x_aload C 2 rfl dX11_isAsToldBy_68 ?_
              refine x_iload C 0 rfl dX11_isAsToldBy_70 ?_
              refine x_V_I C (As := [.int (iN ((m : Int)))]) (rest := []) 1 (2 + 2 * d.toNat) (WX_so _ _ _ _ _ _ _ (show d.toNat < 8 by omega)) rfl gX11_isAsToldBy_X5_skips rfl (MI.shr b F N (Ct.set_wa (Ct.days (Ct.nat N i k fg ag) e) (WA)) P hp sd d.toNat (show d.toNat < 8 by omega) (fun r => r = (bz (Sh.va (F d.toNat) ((m : Int)) = lsz (Sh.so (F d.toNat))))) (c_X5_skips _ _ (saD b d.toNat) (F d.toNat) (hF d.toNat (by omega)) ((m : Int)) (by omega)) (fun r w h => ⟨h.1, h.2⟩)) rfl ok_X5_skips rfl rfl rfl rfl dX11_isAsToldBy_72 (fun r w1 hp => ?_)
              obtain ⟨rfl, rfl⟩ := hp
              refine x_ifne_bz C 107 (by decide) dX11_isAsToldBy_75 (fun c_75 => ?_) (fun c_75 => ?_)
              · refine x_iinc C 0 [(8, .int (iN ((m : Int) + 1))), (7, .int (iN (v7_39))), (6, .ref (b (2 + 2 * d.toNat))), (0, .ref (b 0)), (1, .int (iN (d))), (2, .int (iN (i))), (3, .int (iN (k))), (4, .int (iN (fg))), (5, .int (iN (ag)))] rfl rfl (by decide) rfl dX11_isAsToldBy_107 ?_
                refine x_goto C 39 (by decide) dX11_isAsToldBy_110 ?_
                exact ih39 (m + 1) (e) (WA) _ _ (by omega) (by omega) (hT.1) (rok_y hr (Or.inl c_75)) (by omega)
              · refine x_aload C 2 rfl dX11_isAsToldBy_78 ?_
                refine x_get C in_X11_isAsToldBy_X5 (2 + 2 * d.toNat) (WX_so _ _ _ _ _ _ _ (show d.toNat < 8 by omega)) rfl 5 (by decide) (List.mem_of_getElem? (i := 5) rfl) rfl (v := .ref (b (3 + 2 * d.toNat))) rfl dX11_isAsToldBy_80 ?_
                refine x_iload C 0 rfl dX11_isAsToldBy_83 ?_
                refine x_iaload C (f := (Sh.va (F d.toNat))) (3 + 2 * d.toNat) (WX_sv _ _ _ _ _ _ _ (show d.toNat < 8 by omega)) (by omega) rfl dX11_isAsToldBy_85 ?_
                have b74 := WFs.va (hF d.toNat (by omega)) ((m : Int))
                refine x_aload_n C 3 rfl rfl dX11_isAsToldBy_86 ?_
                refine x_get C in_X11_isAsToldBy_X11 0 rfl rfl 2 (by decide) (List.mem_of_getElem? (i := 1) rfl) rfl (v := .ref (b 38)) rfl dX11_isAsToldBy_87 ?_
                refine x_aload_n C 3 rfl rfl dX11_isAsToldBy_90 ?_
                refine x_get C in_X11_isAsToldBy_X11 0 rfl rfl 2 (by decide) (List.mem_of_getElem? (i := 1) rfl) rfl (v := .ref (b 38)) rfl dX11_isAsToldBy_91 ?_
                refine x_get C in_X11_isAsToldBy_X1 38 rfl rfl 7 (by decide) (List.mem_of_getElem? (i := 6) rfl) rfl (v := .ref (b 43)) rfl dX11_isAsToldBy_94 ?_
                refine x_iload_n C 5 rfl rfl dX11_isAsToldBy_97 ?_
                refine x_iaload C (f := Ct.po (Ct.days (Ct.nat N i k fg ag) e)) 43 rfl (by omega) rfl dX11_isAsToldBy_98 ?_
                have b75 := WFc.po (Ct.days_wf hNat e) (i)
                refine x_V_I C (As := [.int (iN (Ct.po (Ct.days (Ct.nat N i k fg ag) e) i))]) (rest := [.int (iN ((Sh.va (F d.toNat)) (m : Int)))]) 1 38 rfl rfl gX11_isAsToldBy_X1_level rfl (MI.fM b F N (Ct.set_wa (Ct.days (Ct.nat N i k fg ag) e) (WA)) P hp sd (fun r Z => r = (Ct.g (Ct.days (Ct.nat N i k fg ag) e) (Ct.po (Ct.days (Ct.nat N i k fg ag) e) i)) ∧ (Ct.set_wa (Ct.days (Ct.nat N i k fg ag) e) (WA)) = Z) (c_X1_level _ _ (adM b) (Ct.set_wa (Ct.days (Ct.nat N i k fg ag) e) (WA)) (Ct.days_wf hNat e) (Ct.po (Ct.days (Ct.nat N i k fg ag) e) i) (by omega)) (fun r w h => ⟨_, ⟨h.1, rfl⟩, h.2⟩)) rfl ok_X1_level rfl rfl rfl rfl dX11_isAsToldBy_99 (fun r w1 hp => ?_)
                obtain ⟨_, ⟨rfl, rfl⟩, rfl⟩ := hp
                show Wx X 0 0 (WX X.γ b F N (Ct.set_wa (Ct.days (Ct.nat N i k fg ag) e) (WA)) P hp sd) 102 [(8, .int (iN ((m : Int)))), (7, .int (iN (v7_39))), (6, .ref (b (2 + 2 * d.toNat))), (0, .ref (b 0)), (1, .int (iN (d))), (2, .int (iN (i))), (3, .int (iN (k))), (4, .int (iN (fg))), (5, .int (iN (ag)))] [.int (iN (Ct.g (Ct.days (Ct.nat N i k fg ag) e) (Ct.po (Ct.days (Ct.nat N i k fg ag) e) i))), .int (iN ((Sh.va (F d.toNat)) (m : Int)))]
                show Wx X 0 0 (WX X.γ b F N (Ct.set_wa (Ct.days (Ct.nat N i k fg ag) e) (WA)) P hp sd) 102 [(8, .int (iN ((m : Int)))), (7, .int (iN (v7_39))), (6, .ref (b (2 + 2 * d.toNat))), (0, .ref (b 0)), (1, .int (iN (d))), (2, .int (iN (i))), (3, .int (iN (k))), (4, .int (iN (fg))), (5, .int (iN (ag)))] [.int (iN (Ct.g (Ct.days (Ct.nat N i k fg ag) e) (Ct.po (Ct.days (Ct.nat N i k fg ag) e) i))), .int (iN ((Sh.va (F d.toNat)) (m : Int)))]
                have b76 := WFc.g (Ct.days_wf hNat e) (Ct.po (Ct.days (Ct.nat N i k fg ag) e) i)
                refine x_icmp_eq C 107 (by decide) (by omega) dX11_isAsToldBy_102 (fun c_102 => ?_) (fun c_102 => ?_)
                · refine x_iinc C 0 [(8, .int (iN ((m : Int) + 1))), (7, .int (iN (v7_39))), (6, .ref (b (2 + 2 * d.toNat))), (0, .ref (b 0)), (1, .int (iN (d))), (2, .int (iN (i))), (3, .int (iN (k))), (4, .int (iN (fg))), (5, .int (iN (ag)))] rfl rfl (by decide) rfl dX11_isAsToldBy_107 ?_
                  refine x_goto C 39 (by decide) dX11_isAsToldBy_110 ?_
                  exact ih39 (m + 1) (e) (WA) _ _ (by omega) (by omega) (hT.1) (rok_y hr (Or.inr (by rw [← hgg, hT.2]; exact c_102))) (by omega)
                · refine x_iconst (v := 0) C dX11_isAsToldBy_105 ?_
                  exact hret _ _ _ _ dX11_isAsToldBy_106 (nar_z (by decide)) ⟨(by have hr : _ = _ := hr; have h0 : rok (Ct.nat N i k fg ag) (Sh.so (F d.toNat)) i (Sh.va (F d.toNat)) (m + 1) = 0 := rok_n hr (fun z => z.elim (fun y => c_75 y) (fun y => c_102 (by rw [← hgg, hT.2] at y; exact y))); have h1 := rok_stay h0 ((Sh.sz (F d.toNat)).toNat - (m + 1)); rw [show m + 1 + ((Sh.sz (F d.toNat)).toNat - (m + 1)) = (Sh.sz (F d.toNat)).toNat by omega] at h1; exact h1.symm), _, rfl⟩
            · refine x_aload_n C 3 rfl rfl dX11_isAsToldBy_59 ?_
              refine x_get C in_X11_isAsToldBy_X11 0 rfl rfl 2 (by decide) (List.mem_of_getElem? (i := 1) rfl) rfl (v := .ref (b 38)) rfl dX11_isAsToldBy_60 ?_
              refine x_V_I C (As := []) (rest := []) 0 38 rfl rfl gX11_isAsToldBy_X1_passDay rfl (MI.fM b F N (Ct.set_wa (Ct.days (Ct.nat N i k fg ag) e) (WA)) P hp sd (fun r Z => r = ((Ct.D (Ct.set_wa (Ct.days (Ct.nat N i k fg ag) e) (WA)) (Ct.n (Ct.set_wa (Ct.days (Ct.nat N i k fg ag) e) (WA))).toNat).2.2) ∧ (Ct.day (Ct.set_wa (Ct.days (Ct.nat N i k fg ag) e) (WA))) = Z) (c_X1_passDay _ _ (adM b) (Ct.set_wa (Ct.days (Ct.nat N i k fg ag) e) (WA)) (Ct.days_wf hNat e)) (fun r w h => ⟨_, ⟨h.1, rfl⟩, h.2⟩)) rfl ok_X1_passDay rfl rfl rfl rfl dX11_isAsToldBy_63 (fun r w1 hp => ?_)
              obtain ⟨_, ⟨rfl, rfl⟩, rfl⟩ := hp
              show Wx X 0 0 (WX X.γ b F N (Ct.set_wa (Ct.day (Ct.days (Ct.nat N i k fg ag) e)) (WA)) P hp sd) 66 [(8, .int (iN ((m : Int)))), (7, .int (iN (v7_39))), (6, .ref (b (2 + 2 * d.toNat))), (0, .ref (b 0)), (1, .int (iN (d))), (2, .int (iN (i))), (3, .int (iN (k))), (4, .int (iN (fg))), (5, .int (iN (ag)))] [.int (iN ((Ct.D (Ct.days (Ct.nat N i k fg ag) e) (Ct.n (Ct.days (Ct.nat N i k fg ag) e)).toNat).2.2))]
              show Wx X 0 0 (WX X.γ b F N (Ct.set_wa (Ct.day (Ct.days (Ct.nat N i k fg ag) e)) (WA)) P hp sd) 66 [(8, .int (iN ((m : Int)))), (7, .int (iN (v7_39))), (6, .ref (b (2 + 2 * d.toNat))), (0, .ref (b 0)), (1, .int (iN (d))), (2, .int (iN (i))), (3, .int (iN (k))), (4, .int (iN (fg))), (5, .int (iN (ag)))] [.int (iN ((Ct.D (Ct.days (Ct.nat N i k fg ag) e) (Ct.n (Ct.days (Ct.nat N i k fg ag) e)).toNat).2.2))]
              obtain ⟨fl, hfl⟩ : ∃ z : Int, (Ct.D (Ct.days (Ct.nat N i k fg ag) e) (Ct.n (Ct.days (Ct.nat N i k fg ag) e)).toNat).2.2 = z := ⟨_, rfl⟩
              rw [hfl]
              have hfl01 : fl = 0 ∨ fl = 1 := by rw [← hfl]; exact (Ct.D_ok (Ct.days_wf hNat e) _).2.2
              refine Wx.eqW (ws' := (WX X.γ b F N (Ct.set_wa (Ct.days (Ct.nat N i k fg ag) (e + 1)) (WA)) P hp sd)) (rfl) ?_
              refine x_istore C [(7, .int (iN (fl))), (8, .int (iN ((m : Int)))), (6, .ref (b (2 + 2 * d.toNat))), (0, .ref (b 0)), (1, .int (iN (d))), (2, .int (iN (i))), (3, .int (iN (k))), (4, .int (iN (fg))), (5, .int (iN (ag)))] (by decide) rfl dX11_isAsToldBy_66 ?_
              have hT := tld_c (C := (Ct.nat N i k fg ag)) hNn.1 (by omega) hI (by omega) hfl hfl01
              have hgg := fun c => days_g (Ct.nat N i k fg ag) (e + 1) m hT.2.symm c
              refine x_aload C 2 rfl dX11_isAsToldBy_68 ?_
              refine x_iload C 1 rfl dX11_isAsToldBy_70 ?_
              refine x_V_I C (As := [.int (iN ((m : Int)))]) (rest := []) 1 (2 + 2 * d.toNat) (WX_so _ _ _ _ _ _ _ (show d.toNat < 8 by omega)) rfl gX11_isAsToldBy_X5_skips rfl (MI.shr b F N (Ct.set_wa (Ct.days (Ct.nat N i k fg ag) (e + 1)) (WA)) P hp sd d.toNat (show d.toNat < 8 by omega) (fun r => r = (bz (Sh.va (F d.toNat) ((m : Int)) = lsz (Sh.so (F d.toNat))))) (c_X5_skips _ _ (saD b d.toNat) (F d.toNat) (hF d.toNat (by omega)) ((m : Int)) (by omega)) (fun r w h => ⟨h.1, h.2⟩)) rfl ok_X5_skips rfl rfl rfl rfl dX11_isAsToldBy_72 (fun r w1 hp => ?_)
              obtain ⟨rfl, rfl⟩ := hp
              refine x_ifne_bz C 107 (by decide) dX11_isAsToldBy_75 (fun c_75 => ?_) (fun c_75 => ?_)
              · refine x_iinc C 1 [(8, .int (iN ((m : Int) + 1))), (7, .int (iN (fl))), (6, .ref (b (2 + 2 * d.toNat))), (0, .ref (b 0)), (1, .int (iN (d))), (2, .int (iN (i))), (3, .int (iN (k))), (4, .int (iN (fg))), (5, .int (iN (ag)))] rfl rfl (by decide) rfl dX11_isAsToldBy_107 ?_
                refine x_goto C 39 (by decide) dX11_isAsToldBy_110 ?_
                exact ih39 (m + 1) ((e + 1)) (WA) _ _ (by omega) (by omega) (hT.1) (rok_y hr (Or.inl c_75)) (by omega)
              · refine x_aload C 2 rfl dX11_isAsToldBy_78 ?_
                refine x_get C in_X11_isAsToldBy_X5 (2 + 2 * d.toNat) (WX_so _ _ _ _ _ _ _ (show d.toNat < 8 by omega)) rfl 5 (by decide) (List.mem_of_getElem? (i := 5) rfl) rfl (v := .ref (b (3 + 2 * d.toNat))) rfl dX11_isAsToldBy_80 ?_
                refine x_iload C 1 rfl dX11_isAsToldBy_83 ?_
                refine x_iaload C (f := (Sh.va (F d.toNat))) (3 + 2 * d.toNat) (WX_sv _ _ _ _ _ _ _ (show d.toNat < 8 by omega)) (by omega) rfl dX11_isAsToldBy_85 ?_
                have b77 := WFs.va (hF d.toNat (by omega)) ((m : Int))
                refine x_aload_n C 3 rfl rfl dX11_isAsToldBy_86 ?_
                refine x_get C in_X11_isAsToldBy_X11 0 rfl rfl 2 (by decide) (List.mem_of_getElem? (i := 1) rfl) rfl (v := .ref (b 38)) rfl dX11_isAsToldBy_87 ?_
                refine x_aload_n C 3 rfl rfl dX11_isAsToldBy_90 ?_
                refine x_get C in_X11_isAsToldBy_X11 0 rfl rfl 2 (by decide) (List.mem_of_getElem? (i := 1) rfl) rfl (v := .ref (b 38)) rfl dX11_isAsToldBy_91 ?_
                refine x_get C in_X11_isAsToldBy_X1 38 rfl rfl 7 (by decide) (List.mem_of_getElem? (i := 6) rfl) rfl (v := .ref (b 43)) rfl dX11_isAsToldBy_94 ?_
                refine x_iload_n C 5 rfl rfl dX11_isAsToldBy_97 ?_
                refine x_iaload C (f := Ct.po (Ct.days (Ct.nat N i k fg ag) (e + 1))) 43 rfl (by omega) rfl dX11_isAsToldBy_98 ?_
                have b78 := WFc.po (Ct.days_wf hNat (e + 1)) (i)
                refine x_V_I C (As := [.int (iN (Ct.po (Ct.days (Ct.nat N i k fg ag) (e + 1)) i))]) (rest := [.int (iN ((Sh.va (F d.toNat)) (m : Int)))]) 1 38 rfl rfl gX11_isAsToldBy_X1_level rfl (MI.fM b F N (Ct.set_wa (Ct.days (Ct.nat N i k fg ag) (e + 1)) (WA)) P hp sd (fun r Z => r = (Ct.g (Ct.days (Ct.nat N i k fg ag) (e + 1)) (Ct.po (Ct.days (Ct.nat N i k fg ag) (e + 1)) i)) ∧ (Ct.set_wa (Ct.days (Ct.nat N i k fg ag) (e + 1)) (WA)) = Z) (c_X1_level _ _ (adM b) (Ct.set_wa (Ct.days (Ct.nat N i k fg ag) (e + 1)) (WA)) (Ct.days_wf hNat (e + 1)) (Ct.po (Ct.days (Ct.nat N i k fg ag) (e + 1)) i) (by omega)) (fun r w h => ⟨_, ⟨h.1, rfl⟩, h.2⟩)) rfl ok_X1_level rfl rfl rfl rfl dX11_isAsToldBy_99 (fun r w1 hp => ?_)
                obtain ⟨_, ⟨rfl, rfl⟩, rfl⟩ := hp
                show Wx X 0 0 (WX X.γ b F N (Ct.set_wa (Ct.days (Ct.nat N i k fg ag) (e + 1)) (WA)) P hp sd) 102 [(7, .int (iN (fl))), (8, .int (iN ((m : Int)))), (6, .ref (b (2 + 2 * d.toNat))), (0, .ref (b 0)), (1, .int (iN (d))), (2, .int (iN (i))), (3, .int (iN (k))), (4, .int (iN (fg))), (5, .int (iN (ag)))] [.int (iN (Ct.g (Ct.days (Ct.nat N i k fg ag) (e + 1)) (Ct.po (Ct.days (Ct.nat N i k fg ag) (e + 1)) i))), .int (iN ((Sh.va (F d.toNat)) (m : Int)))]
                show Wx X 0 0 (WX X.γ b F N (Ct.set_wa (Ct.days (Ct.nat N i k fg ag) (e + 1)) (WA)) P hp sd) 102 [(7, .int (iN (fl))), (8, .int (iN ((m : Int)))), (6, .ref (b (2 + 2 * d.toNat))), (0, .ref (b 0)), (1, .int (iN (d))), (2, .int (iN (i))), (3, .int (iN (k))), (4, .int (iN (fg))), (5, .int (iN (ag)))] [.int (iN (Ct.g (Ct.days (Ct.nat N i k fg ag) (e + 1)) (Ct.po (Ct.days (Ct.nat N i k fg ag) (e + 1)) i))), .int (iN ((Sh.va (F d.toNat)) (m : Int)))]
                have b79 := WFc.g (Ct.days_wf hNat (e + 1)) (Ct.po (Ct.days (Ct.nat N i k fg ag) (e + 1)) i)
                refine x_icmp_eq C 107 (by decide) (by omega) dX11_isAsToldBy_102 (fun c_102 => ?_) (fun c_102 => ?_)
                · refine x_iinc C 1 [(8, .int (iN ((m : Int) + 1))), (7, .int (iN (fl))), (6, .ref (b (2 + 2 * d.toNat))), (0, .ref (b 0)), (1, .int (iN (d))), (2, .int (iN (i))), (3, .int (iN (k))), (4, .int (iN (fg))), (5, .int (iN (ag)))] rfl rfl (by decide) rfl dX11_isAsToldBy_107 ?_
                  refine x_goto C 39 (by decide) dX11_isAsToldBy_110 ?_
                  exact ih39 (m + 1) ((e + 1)) (WA) _ _ (by omega) (by omega) (hT.1) (rok_y hr (Or.inr (by rw [← hgg, hT.2]; exact c_102))) (by omega)
                · refine x_iconst (v := 0) C dX11_isAsToldBy_105 ?_
                  exact hret _ _ _ _ dX11_isAsToldBy_106 (nar_z (by decide)) ⟨(by have hr : _ = _ := hr; have h0 : rok (Ct.nat N i k fg ag) (Sh.so (F d.toNat)) i (Sh.va (F d.toNat)) (m + 1) = 0 := rok_n hr (fun z => z.elim (fun y => c_75 y) (fun y => c_102 (by rw [← hgg, hT.2] at y; exact y))); have h1 := rok_stay h0 ((Sh.sz (F d.toNat)).toNat - (m + 1)); rw [show m + 1 + ((Sh.sz (F d.toNat)).toNat - (m + 1)) = (Sh.sz (F d.toNat)).toNat by omega] at h1; exact h1.symm), _, rfl⟩
    exact LP39 (((Sh.sz (F d.toNat)).toNat - (0)) + 1) (0) (0) (Ct.wa M) _ _ (by omega) (by omega) (Or.inl ⟨rfl, rfl⟩) (rfl) (by omega)
  · exact absurd (show (0 ≤ i ∧ i ≤ 5) ∧ (0 ≤ k ∧ k ≤ 7) ∧ (0 ≤ fg ∧ fg ≤ 9) ∧ 0 ≤ ag ∧ ag ≤ 120 by omega) hp1
end HXBaa
