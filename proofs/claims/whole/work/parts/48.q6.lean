section HQ6
def LcO (C : Ct) : Ct := Lc (Ct.h C) (Ct.n C) (Ct.dy C) (Ct.kd C) (Ct.fg C) (Ct.ag C) (Ct.po C) (Ct.wy C)
theorem WFm.ofC {mn : Int} {mh : Int → Int} {mkd : Int → Int} {mfg : Int → Int} {mag : Int → Int} {mpo : Int → Int} {mwy : Int → Int} {mhw : Int → Int} {mkk : Int → Int} {mkf : Int → Int} {mrs : Int → Int} {mrm : Int → Int} {mrw : Int → Int} (h : WFm mn mh mkd mfg mag mpo mwy mhw mkk mkf mrs mrm mrw) {C : Ct} (hC : WFc C) : WFm (Ct.n C) (Ct.h C) (Ct.kd C) (Ct.fg C) (Ct.ag C) (Ct.po C) (Ct.wy C) mhw mkk mkf mrs mrm mrw := ⟨hC.n, hC.h, hC.kd, hC.fg, hC.ag, hC.po, hC.wy, h.hw, h.kk, h.kf, h.rs, h.rm, h.rw⟩
theorem sck_g (x y e f : Int) (C : Ct) : sck 103 x y e f C = if (0 ≤ x ∧ x ≤ 14) ∧ 0 ≤ y ∧ y ≤ 20 then 1 else 0 := by
  unfold sck
  rw [if_pos rfl]
theorem sck_w (x y e f : Int) (C : Ct) : sck 119 x y e f C = if (0 ≤ x ∧ x ≤ 7) ∧ (0 ≤ y ∧ y ≤ 9) ∧ (0 ≤ e ∧ e ≤ 120) ∧ (0 ≤ f ∧ f ≤ 14) ∧ Ct.n C < 6 then 1 else 0 := by
  unfold sck
  rw [if_neg (by decide), if_pos rfl]
theorem sck_m (x y e f : Int) (C : Ct) : sck 109 x y e f C = if (0 ≤ x ∧ x ≤ Ct.n C - 1) ∧ 0 ≤ y ∧ y ≤ 14 then 1 else 0 := by
  unfold sck
  rw [if_neg (by decide), if_neg (by decide), if_pos rfl]
theorem sck_y (x y e f : Int) (C : Ct) : sck 121 x y e f C = if (0 ≤ x ∧ x ≤ Ct.n C - 1) ∧ 0 ≤ y ∧ y ≤ 2 then 1 else 0 := by
  unfold sck
  rw [if_neg (by decide), if_neg (by decide), if_neg (by decide), if_pos rfl]
theorem sck_d (x y e f : Int) (C : Ct) : sck 100 x y e f C = if (1 ≤ x ∧ x ≤ 60) ∧ Ct.dy C + x ≤ 999 then 1 else 0 := by
  unfold sck
  rw [if_neg (by decide), if_neg (by decide), if_neg (by decide), if_neg (by decide)]
theorem snc_g (x y e f : Int) (C : Ct) : snc 103 x y e f C = Ct.set_h C (upz (Ct.h C) x y) := by
  unfold snc
  rw [if_pos rfl]
theorem snc_w (x y e f : Int) (C : Ct) : snc 119 x y e f C = Ct.come C x y e f := by
  unfold snc
  rw [if_neg (by decide), if_pos rfl]
theorem snc_m (x y e f : Int) (C : Ct) : snc 109 x y e f C = Ct.set_po C (upz (Ct.po C) x y) := by
  unfold snc
  rw [if_neg (by decide), if_neg (by decide), if_pos rfl]
theorem snc_y (x y e f : Int) (C : Ct) : snc 121 x y e f C = Ct.set_wy C (upz (Ct.wy C) x (wyz y)) := by
  unfold snc
  rw [if_neg (by decide), if_neg (by decide), if_neg (by decide), if_pos rfl]
theorem snc_d (x y e f : Int) (C : Ct) : snc 100 x y e f C = Ct.days C x.toNat := by
  unfold snc
  rw [if_neg (by decide), if_neg (by decide), if_neg (by decide), if_neg (by decide)]
abbrev ltr (c : Int) : Prop := c = 103 ∨ c = 119 ∨ c = 109 ∨ c = 121 ∨ c = 100
theorem sck_told {u T : Int → Int} {c p i : Int} {C : Ct} (hc : ltr c) (h : tldI u c p T i) : sck c (T i) (T (i + 1)) (T (i + 2)) (T (i + 3)) C = sck c (tA u c p) (tB u c p) (tC u p) (tD u p) C := by
  obtain ⟨h1, h2, h3⟩ := h
  rw [h1]
  rcases hc with rfl | rfl | rfl | rfl | rfl
  · rw [h2 (by decide), sck_g, sck_g]
  · rw [h2 (by decide), (h3 rfl).1, (h3 rfl).2]
  · rw [h2 (by decide), sck_m, sck_m]
  · rw [h2 (by decide), sck_y, sck_y]
  · rw [sck_d, sck_d]
theorem snc_told {u T : Int → Int} {c p i : Int} {C : Ct} (hc : ltr c) (h : tldI u c p T i) : snc c (T i) (T (i + 1)) (T (i + 2)) (T (i + 3)) C = snc c (tA u c p) (tB u c p) (tC u p) (tD u p) C := by
  obtain ⟨h1, h2, h3⟩ := h
  rw [h1]
  rcases hc with rfl | rfl | rfl | rfl | rfl
  · rw [h2 (by decide), snc_g, snc_g]
  · rw [h2 (by decide), (h3 rfl).1, (h3 rfl).2]
  · rw [h2 (by decide), snc_m, snc_m]
  · rw [h2 (by decide), snc_y, snc_y]
  · rw [snc_d, snc_d]
theorem days_O {C : Ct} (h : LcO C = C) (k : Nat) : LcO (Ct.days C k) = Ct.days C k := by
  obtain ⟨P, Y, D, e⟩ : ∃ P Y D, Ct.days C k = Ct.set_dy (Ct.set_wy (Ct.set_po C P) Y) D := ⟨_, _, _, Ct.days_same C k⟩
  rw [e]
  exact congrArg (fun Z => Ct.set_dy (Ct.set_wy (Ct.set_po Z P) Y) D) h
theorem come_O {C : Ct} (h : LcO C = C) (k f g c : Int) : LcO (Ct.come C k f g c) = Ct.come C k f g c := by
  have e := Lc_nat (Ct.h C) (Ct.n C) (Ct.dy C) (Ct.kd C) (Ct.fg C) (Ct.ag C) (Ct.po C) (Ct.wy C) (Ct.n C) k f g
  have e2 : Lc (Ct.h C) (Ct.n C) (Ct.dy C) (upz (Ct.kd C) (Ct.n C) k) (upz (Ct.fg C) (Ct.n C) f) (upz (Ct.ag C) (Ct.n C) g) (Ct.po C) (Ct.wy C) = Ct.nat C (Ct.n C) k f g := e.trans (congrArg (fun Z => Ct.nat Z (Ct.n C) k f g) h)
  exact congrArg (fun Z => Ct.set_n (Ct.set_wy (Ct.set_po Z (upz (Ct.po C) (Ct.n C) c)) (upz (Ct.wy C) (Ct.n C) 0)) (Ct.n C + 1)) e2
theorem snc_O {C : Ct} (h : LcO C = C) {c : Int} (hc : ltr c) (x y e f : Int) : LcO (snc c x y e f C) = snc c x y e f C := by
  rcases hc with rfl | rfl | rfl | rfl | rfl
  · rw [snc_g]
    exact congrArg (fun Z => Ct.set_h Z (upz (Ct.h C) x y)) h
  · rw [snc_w]
    exact come_O h x y e f
  · rw [snc_m]
    exact congrArg (fun Z => Ct.set_po Z (upz (Ct.po C) x y)) h
  · rw [snc_y]
    exact congrArg (fun Z => Ct.set_wy Z (upz (Ct.wy C) x (wyz y))) h
  · rw [snc_d]
    exact days_O h _
theorem days_dy (C : Ct) : ∀ k : Nat, Ct.dy (Ct.days C k) = Ct.dy C + (k : Int)
  | 0 => by simp [Ct.days]
  | k + 1 => by
    have e := days_dy C k
    show Ct.dy (Ct.days C k) + 1 = _
    rw [e]
    omega
theorem come_wf {C : Ct} (hW : WFc C) {k f g c : Int} (hk : 0 ≤ k ∧ k ≤ 7) (hf : 0 ≤ f ∧ f ≤ 9) (hg : 0 ≤ g ∧ g ≤ 120) (hc : 0 ≤ c ∧ c ≤ 14) (hn : Ct.n C < 6) : WFc (Ct.come C k f g c) :=
  WFc.mk (C := Ct.come C k f g c) (show 0 ≤ Ct.n C + 1 ∧ Ct.n C + 1 ≤ 6 by have := hW.n; omega) hW.h (bd_upz hW.kd hk) (bd_upz hW.fg hf) (bd_upz hW.ag hg) (bd_upz hW.po hc) (bd_upz hW.wy (by omega)) (bd_upz hW.pr (prF_b hf hg)) (bd_upz hW.sp (spF_b k)) (bd_upz hW.sr (srF_b hf))
theorem snc_wf {C : Ct} (hW : WFc C) (hd : 0 ≤ Ct.dy C ∧ Ct.dy C ≤ 999) {c x y e f : Int} (hc : ltr c) (h : sck c x y e f C = 1) : WFc (snc c x y e f C) ∧ 0 ≤ Ct.dy (snc c x y e f C) ∧ Ct.dy (snc c x y e f C) ≤ 999 := by
  rcases hc with rfl | rfl | rfl | rfl | rfl
  · rw [snc_g]
    rw [sck_g] at h
    exact ⟨hW.hts (bd_upz hW.h (by omega)), hd⟩
  · rw [snc_w]
    rw [sck_w] at h
    exact ⟨come_wf hW (by omega) (by omega) (by omega) (by omega) (by omega), hd⟩
  · rw [snc_m]
    rw [sck_m] at h
    exact ⟨hW.posn (bd_upz hW.po (by omega)), hd⟩
  · rw [snc_y]
    rw [sck_y] at h
    refine ⟨hW.way (bd_upz hW.wy ?_), hd⟩
    unfold wyz
    omega
  · rw [snc_d]
    rw [sck_d] at h
    have e := days_dy C x.toNat
    refine ⟨Ct.days_wf hW _, ?_⟩
    omega
theorem tA_b {u : Int → Int} {c p : Int} (h : ltr c) (hl : ldz u p (dgz c).toNat = (dgz c).toNat) : 0 ≤ tA u c p ∧ tA u c p ≤ 99 := by
  have hh : ∀ a b : Nat, ldz u p (a + b) = a + b → ldz u p a = a := fun a b e => by
    have e1 := ldz_le u a p
    by_cases q : ldz u p a < a
    · have := ldz_no b q
      omega
    · omega
  rcases h with rfl | rfl | rfl | rfl | rfl
  · have := numz_d (hh 2 2 hl)
    show 0 ≤ numz u p 2 ∧ numz u p 2 ≤ 99
    omega
  · have := numz_d (hh 1 6 hl)
    show 0 ≤ numz u p 1 ∧ numz u p 1 ≤ 99
    omega
  · have := numz_d (hh 1 2 hl)
    show 0 ≤ numz u p 1 ∧ numz u p 1 ≤ 99
    omega
  · have := numz_d (hh 1 1 hl)
    show 0 ≤ numz u p 1 ∧ numz u p 1 ≤ 99
    omega
  · have := numz_d (hh 2 0 hl)
    show 0 ≤ numz u p 2 ∧ numz u p 2 ≤ 99
    omega
theorem ldz_mid {u : Int → Int} {p q : Int} (a b c : Nat) (hq : q = p + (a : Int)) (h : ldz u p (a + (b + c)) = a + (b + c)) : ldz u q b = b := by
  subst hq
  have h1 : ldz u p a = a := by
    have e1 := ldz_le u a p
    by_cases q : ldz u p a < a
    · have := ldz_no (b + c) q
      omega
    · omega
  have h2 := ldz_go (b + c) h1
  have e1 := ldz_le u b (p + (a : Int))
  by_cases q : ldz u (p + (a : Int)) b < b
  · have := ldz_no c q
    omega
  · omega
theorem tB_b {u : Int → Int} {c p : Int} (h : ltr c) (hl : ldz u p (dgz c).toNat = (dgz c).toNat) : c = 100 ∨ (0 ≤ tB u c p ∧ tB u c p ≤ 99) := by
  rcases h with rfl | rfl | rfl | rfl | rfl
  · have := numz_d (ldz_mid (q := p + 2) 2 2 0 (by omega) hl)
    right
    show 0 ≤ numz u (p + 2) 2 ∧ numz u (p + 2) 2 ≤ 99
    omega
  · have := numz_d (ldz_mid (q := p + 1) 1 1 5 (by omega) hl)
    right
    show 0 ≤ numz u (p + 1) 1 ∧ numz u (p + 1) 1 ≤ 99
    omega
  · have := numz_d (ldz_mid (q := p + 1) 1 2 0 (by omega) hl)
    right
    show 0 ≤ numz u (p + 1) 2 ∧ numz u (p + 1) 2 ≤ 99
    omega
  · have := numz_d (ldz_mid (q := p + 1) 1 1 0 (by omega) hl)
    right
    show 0 ≤ numz u (p + 1) 1 ∧ numz u (p + 1) 1 ≤ 99
    omega
  · exact Or.inl rfl
theorem tCD_b {u : Int → Int} {c p : Int} (h : ltr c) (hl : ldz u p (dgz c).toNat = (dgz c).toNat) : c ≠ 119 ∨ (tB u c p ≤ 9 ∧ (0 ≤ tC u p ∧ tC u p ≤ 999) ∧ 0 ≤ tD u p ∧ tD u p ≤ 99) := by
  by_cases q : c = 119
  · right
    subst q
    have h1 := numz_d (ldz_mid (q := p + 2) 2 3 2 (by omega) hl)
    have h2 := numz_d (ldz_mid (q := p + 5) 5 2 0 (by omega) hl)
    have h3 := numz_d (ldz_mid (q := p + 1) 1 1 5 (by omega) hl)
    refine ⟨show numz u (p + 1) 1 ≤ 9 by omega, ?_⟩
    unfold tC tD
    omega
  · exact Or.inl q
/-- the statement at place s, as it is told: letter and numbers within their bounds -/
theorem rdS_at {u : Int → Int} {sz : Int} {k : Nat} {A L T : Int → Int} (h : rdS u sz k A L T) (hp : ∀ s, 0 ≤ pz u s) {s : Nat} (hs : s < k) (C : Ct) : ltr (L (s : Int)) ∧ A (s : Int) = pz u s ∧ (0 ≤ T (4 * (s : Int)) ∧ T (4 * (s : Int)) ≤ 99) ∧ (L (s : Int) = 100 ∨ (0 ≤ T (4 * (s : Int) + 1) ∧ T (4 * (s : Int) + 1) ≤ 99)) ∧ (L (s : Int) ≠ 119 ∨ (T (4 * (s : Int) + 1) ≤ 9 ∧ (0 ≤ T (4 * (s : Int) + 2) ∧ T (4 * (s : Int) + 2) ≤ 999) ∧ 0 ≤ T (4 * (s : Int) + 3) ∧ T (4 * (s : Int) + 3) ≤ 99)) ∧ sck (L (s : Int)) (T (4 * (s : Int))) (T (4 * (s : Int) + 1)) (T (4 * (s : Int) + 2)) (T (4 * (s : Int) + 3)) C = sok u (pz u s) C ∧ snc (L (s : Int)) (T (4 * (s : Int))) (T (4 * (s : Int) + 1)) (T (4 * (s : Int) + 2)) (T (4 * (s : Int) + 3)) C = snx u (pz u s) C := by
  obtain ⟨e1, e2, e3, e4⟩ := h.1 s hs
  have hd := sbad_ok (hp s) e3
  have hl : ltr (u (pz u s)) := dgz_let (by omega)
  rw [e2]
  have b1 := tA_b hl hd.2
  have b2 := tB_b hl hd.2
  have b3 := tCD_b hl hd.2
  refine ⟨hl, e1, by rw [e4.1]; exact b1, ?_, ?_, sck_told hl e4, snc_told hl e4⟩
  · rcases b2 with q | q
    · exact Or.inl q
    · by_cases r : u (pz u s) = 100
      · exact Or.inl r
      · right
        rw [e4.2.1 r]
        exact q
  · rcases b3 with q | q
    · exact Or.inl q
    · by_cases r : u (pz u s) = 119
      · right
        rw [(e4.2.2 r).1, (e4.2.2 r).2, e4.2.1 (by omega)]
        exact q
      · exact Or.inl r
theorem pz_0 {u : Int → Int} : ∀ s, 0 ≤ pz u s
  | 0 => by simp [pz]
  | s + 1 => by
    have h := pz_0 (u := u) s
    have h2 := dgz_b (u (pz u s))
    simp only [pz]
    omega
theorem pz_up {u : Int → Int} : ∀ s : Nat, pz u s ≤ 9 * (s : Int)
  | 0 => by simp [pz]
  | s + 1 => by
    have h := pz_up (u := u) s
    have h2 := dgz_b (u (pz u s))
    simp only [pz]
    omega
theorem rdS_lt {v : Int → Int} {sz : Int} {k : Nat} {A L T : Int → Int} (h : rdS (uz v sz) sz k A L T) {s : Nat} (hs : s < k) : pz (uz v sz) s < sz := by
  obtain ⟨e1, e2, e3, e4⟩ := h.1 s hs
  exact (uz_pos (sbad_ok (pz_0 s) e3).1).2
end HQ6
