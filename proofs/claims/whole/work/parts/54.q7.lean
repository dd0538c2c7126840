section HQ7
variable {X : CX} {cc : ByteArray} {nL : Nat} {own : String} {Ts : List Cond} {rm : Room} {k n : Nat} {ws : va_W} {pc : Nat} {L : List (Nat × Value)} {st : List Value}
theorem x_maxJ (C : Cx X cc nL own Ts rm) {index : Nat} {a b : Int} (hl1 : Cond.methodLink own index Lib.MathLoose.max_long.x ∈ Ts) (hl2 : Cond.static Lib.MathLoose.max_long.x ∈ Ts) (hl3 : Cond.initialized "java/lang/Math" ∈ Ts) (hl4 : Cond.code Lib.MathLoose.max_long.x Lib.MathLoose.max_long.code 4 (some .long) ∈ Ts) (h : -9223372036854775808 ≤ a ∧ a < 9223372036854775808 ∧ -9223372036854775808 ≤ b ∧ b < 9223372036854775808) (hroom : (Nat.ble 1 rm.frames && ((st.map fun v : Value => v.category).sum + 15).ble rm.locals && k.ble rm.cells && n.ble rm.slots) = true) (d : decode cc pc = .ok (.invokestatic index, 3)) (kk : Wx X k n ws (pc + 3) L (.long (jN (max a b)) :: st)) : Wx X k n ws pc L (.long (jN b) :: .long (jN a) :: st) := by
  intro H locs ls hP hD hS hl
  have hRR := C.hR
  simp only [Bool.and_eq_true, Nat.ble_eq] at hroom
  refine va_mmax_long C.hx C.hb (C.hml.trans (hl.1.trans C.hnL).symm) C.hown (C.hts _ hl1) (C.hts _ hl2) (C.hts _ hl3) (C.hts _ hl4) (by rw [hRR]; exact hroom.1.1.1) (by rw [hRR]; exact hroom.1.1.2) (by rw [hRR]; exact hroom.1.2) (by rw [hRR]; exact hroom.2) d ?_
  have e : (if jN b < jN a then jN a else jN b) = jN (max a b) := by
    have h' : -9223372036854775808 ≤ b ∧ b < 9223372036854775808 ∧ -9223372036854775808 ≤ a ∧ a < 9223372036854775808 := ⟨h.2.2.1, h.2.2.2, h.1, h.2.1⟩
    by_cases q : b < a
    · rw [if_pos ((jN_lt h').mpr q)]; congr 1; omega
    · rw [if_neg (fun z => q ((jN_lt h').mp z))]; congr 1; omega
  rw [e]
  exact kk H locs ls hP hD hS hl
/-- the class, but for what in mind, the waters and the seed rest at -/
def Wc (γ : GX) (b : Nat → Nat) (F : Nat → Sh) (N P : Ct) (hp : Int) (w : va_W) : Prop := ∃ x y M s, w = WX γ b F (Ct.set_wa N x) M (Ct.set_wa P y) hp s
theorem days_wa (C : Ct) (x : Int → Int) : ∀ k, Ct.days (Ct.set_wa C x) k = Ct.set_wa (Ct.days C k) x
  | 0 => rfl
  | k + 1 => by
    show Ct.day (Ct.days (Ct.set_wa C x) k) = Ct.set_wa (Ct.day (Ct.days C k)) x
    rw [days_wa C x k]
    rfl
/-! ## the divisor by turns -/
def egc (x y : Nat) : Nat → Nat
  | 0 => x
  | k + 1 => if y = 0 then x else egc y (x % y) k
end HQ7
section HQ7b
theorem egc_0 (x : Nat) : ∀ k, egc x 0 k = x
  | 0 => rfl
  | k + 1 => by
    show (if (0 : Nat) = 0 then x else egc 0 (x % 0) k) = x
    rw [if_pos rfl]
theorem egc_gcd : ∀ (j : Nat) (x y : Nat), y < 2 ^ j → egc x y (2 * j) = Nat.gcd x y
  | 0, x, y, h => by
    have h0 : y = 0 := by
      have : (2 : Nat) ^ 0 = 1 := rfl
      omega
    rw [h0, Nat.gcd_zero_right]
    rfl
  | j + 1, x, y, h => by
    show egc x y (2 * j + 2) = _
    simp only [egc]
    by_cases h0 : y = 0
    · rw [if_pos h0, h0, Nat.gcd_zero_right]
    · rw [if_neg h0]
      have hr := Nat.mod_lt x (show 0 < y by omega)
      by_cases h1 : x % y = 0
      · rw [if_pos h1, Nat.gcd_comm, Nat.gcd_rec, h1, Nat.gcd_zero_left]
      · rw [if_neg h1]
        have hq := Nat.mod_lt y (show 0 < x % y by omega)
        have hp : (2 : Nat) ^ (j + 1) = 2 ^ j * 2 := Nat.pow_succ ..
        have hb : y % (x % y) < 2 ^ j := by
          by_cases hh : 2 * (x % y) ≤ y
          · omega
          · have e : y % (x % y) = y - x % y := by
              rw [Nat.mod_eq_sub_mod (by omega), Nat.mod_eq_of_lt (by omega)]
            omega
        rw [egc_gcd j _ _ hb]
        rw [Nat.gcd_comm x y, Nat.gcd_rec y x, Nat.gcd_rec (x % y) y, Nat.gcd_comm]
/-! ## only some press -/
def onp (pr : Int → Int) (t : Int) : Nat → Int → Int
  | 0 => pr
  | k + 1 => if btz t (k : Int) then onp pr t k else upz (onp pr t k) (k : Int) 0
theorem onp_at (pr : Int → Int) (t : Int) : ∀ (k : Nat) (i : Int), onp pr t k i = if 0 ≤ i ∧ i < (k : Int) ∧ ¬ btz t i then 0 else pr i
  | 0, i => by
    rw [if_neg (by omega)]
    rfl
  | k + 1, i => by
    have h := onp_at pr t k i
    simp only [onp]
    by_cases q : i = (k : Int)
    · subst q
      by_cases hb : btz t (k : Int)
      · rw [if_pos hb, h, if_neg (by omega), if_neg (fun z => z.2.2 hb)]
      · rw [if_neg hb, upz_s, if_pos ⟨by omega, by omega, hb⟩]
    · have e : (if btz t (k : Int) then onp pr t k else upz (onp pr t k) (k : Int) 0) i = onp pr t k i := by
        split
        · rfl
        · exact upz_n q
      rw [e, h]
      by_cases hb : 0 ≤ i ∧ i < (k : Int) ∧ ¬ btz t i
      · rw [if_pos hb, if_pos ⟨hb.1, by omega, hb.2.2⟩]
      · rw [if_neg hb, if_neg (fun z => hb ⟨z.1, by omega, z.2.2⟩)]
theorem onp_b {pr : Int → Int} (h : bd pr 0 16) (t : Int) (k : Nat) : bd (onp pr t k) 0 16 := fun i => by
  rw [onp_at]
  have := h i
  split <;> omega
/-! ## behind a day on which nobody goes -/
def goI (C : Ct) (i : Int) : Prop := (0 ≤ Ct.po C i + Ct.wy C i ∧ Ct.po C i + Ct.wy C i ≤ 14) ∧ Ct.wy C i ≠ 0 ∧ Ct.mg C i (Ct.wy C i)
def noGo (C : Ct) : Prop := ∀ i : Int, 0 ≤ i → i < Ct.n C → ¬ goI C i
theorem D_s (C : Ct) (k : Nat) : Ct.D C (k + 1) = stp (Ct.h C) (Ct.n C) (Ct.pr C) (Ct.sp C) (Ct.sr C) (Ct.D C k) (k : Int) := rfl
theorem noGo_D {C : Ct} (h : noGo C) : ∀ k : Nat, (k : Int) ≤ Ct.n C → (Ct.D C k).1 = Ct.po C ∧ (Ct.D C k).2.2 = 0 ∧ (∀ i : Int, (k : Int) ≤ i → (Ct.D C k).2.1 i = Ct.wy C i) ∧ ∀ i : Int, (Ct.D C k).2.1 i = Ct.wy C i ∨ (Ct.D C k).2.1 i = 0
  | 0, _ => ⟨rfl, rfl, fun _ _ => rfl, fun _ => Or.inl rfl⟩
  | k + 1, hk => by
    obtain ⟨h1, h2, h3, h4⟩ := noGo_D h k (by omega)
    have hw := h3 (k : Int) (by omega)
    have hg := h (k : Int) (by omega) (by omega)
    rw [D_s]
    unfold stp
    by_cases q : 0 ≤ (Ct.D C k).1 (k : Int) + (Ct.D C k).2.1 (k : Int) ∧ (Ct.D C k).1 (k : Int) + (Ct.D C k).2.1 (k : Int) ≤ 14
    · rw [if_pos q]
      have hn : ¬ ((Ct.D C k).2.1 (k : Int) ≠ 0 ∧ mgo (Ct.h C) (Ct.n C) (Ct.pr C) (Ct.sp C) (Ct.sr C) (Ct.D C k).1 (k : Int) ((Ct.D C k).2.1 (k : Int))) := by
        rw [h1, hw] at q ⊢
        exact fun z => hg ⟨q, z.1, z.2⟩
      rw [if_neg hn]
      exact ⟨h1, h2, fun i hi => h3 i (by omega), h4⟩
    · rw [if_neg q]
      refine ⟨h1, h2, fun i hi => ?_, fun i => ?_⟩
      · show upz _ _ _ i = _
        rw [upz_n (by omega)]
        exact h3 i (by omega)
      · show upz (Ct.D C k).2.1 (k : Int) 0 i = _ ∨ upz (Ct.D C k).2.1 (k : Int) 0 i = _
        by_cases e : i = (k : Int)
        · rw [e, upz_s]
          exact Or.inr rfl
        · rw [upz_n e]
          exact h4 i
theorem noGo_of {C : Ct} : ∀ k : Nat, (Ct.D C k).2.2 = 0 → (Ct.D C k).1 = Ct.po C ∧ (∀ i : Int, (k : Int) ≤ i → (Ct.D C k).2.1 i = Ct.wy C i) ∧ ∀ i : Int, 0 ≤ i → i < (k : Int) → ¬ goI C i
  | 0, _ => ⟨rfl, fun _ _ => rfl, fun i h1 h2 => absurd h2 (by omega)⟩
  | k + 1, h => by
    rw [D_s] at h ⊢
    unfold stp at h ⊢
    by_cases q : 0 ≤ (Ct.D C k).1 (k : Int) + (Ct.D C k).2.1 (k : Int) ∧ (Ct.D C k).1 (k : Int) + (Ct.D C k).2.1 (k : Int) ≤ 14
    · rw [if_pos q] at h ⊢
      by_cases hg : (Ct.D C k).2.1 (k : Int) ≠ 0 ∧ mgo (Ct.h C) (Ct.n C) (Ct.pr C) (Ct.sp C) (Ct.sr C) (Ct.D C k).1 (k : Int) ((Ct.D C k).2.1 (k : Int))
      · rw [if_pos hg] at h
        have h : (1 : Int) = 0 := h
        omega
      · rw [if_neg hg] at h ⊢
        obtain ⟨h1, h2, h3⟩ := noGo_of k h
        refine ⟨h1, fun i hi => h2 i (by omega), fun i hi1 hi2 => ?_⟩
        by_cases e : i = (k : Int)
        · subst e
          rw [h1, h2 (k : Int) (by omega)] at hg
          exact fun z => hg ⟨z.2.1, z.2.2⟩
        · exact h3 i hi1 (by omega)
    · rw [if_neg q] at h ⊢
      obtain ⟨h1, h2, h3⟩ := noGo_of k h
      refine ⟨h1, fun i hi => ?_, fun i hi1 hi2 => ?_⟩
      · show upz _ _ _ i = _
        rw [upz_n (by omega)]
        exact h2 i (by omega)
      · by_cases e : i = (k : Int)
        · subst e
          rw [h1, h2 (k : Int) (by omega)] at q
          exact fun z => q z.1
        · exact h3 i hi1 (by omega)
theorem noGo_day {C : Ct} (hn : 0 ≤ Ct.n C) (h : noGo C) : Ct.po (Ct.day C) = Ct.po C ∧ noGo (Ct.day C) := by
  obtain ⟨h1, h2, h3, h4⟩ := noGo_D h (Ct.n C).toNat (by omega)
  refine ⟨h1, fun i hi1 hi2 z => ?_⟩
  obtain ⟨z1, z2, z3⟩ := z
  have e1 : Ct.po (Ct.day C) = Ct.po C := h1
  have e2 : Ct.wy (Ct.day C) i = Ct.wy C i := by
    rcases h4 i with q | q
    · exact q
    · exact absurd q z2
  have z3 : mgo (Ct.h C) (Ct.n C) (Ct.pr C) (Ct.sp C) (Ct.sr C) (Ct.po (Ct.day C)) i (Ct.wy (Ct.day C) i) := z3
  rw [e1, e2] at z1 z3
  rw [e2] at z2
  exact h i hi1 hi2 ⟨z1, z2, z3⟩
theorem noGo_days {C : Ct} (hn : 0 ≤ Ct.n C) (h : noGo C) : ∀ k, Ct.po (Ct.days C k) = Ct.po C ∧ noGo (Ct.days C k)
  | 0 => ⟨rfl, h⟩
  | k + 1 => by
    obtain ⟨h1, h2⟩ := noGo_days hn h k
    have hn2 : 0 ≤ Ct.n (Ct.days C k) := by rw [(Ct.days_eq C k).2.1]; exact hn
    obtain ⟨h3, h4⟩ := noGo_day hn2 h2
    exact ⟨h3.trans h1, h4⟩
theorem days_add (C : Ct) (j : Nat) : ∀ k, Ct.days C (j + k) = Ct.days (Ct.days C j) k
  | 0 => rfl
  | k + 1 => by
    show Ct.day (Ct.days C (j + k)) = Ct.day (Ct.days (Ct.days C j) k)
    rw [days_add C j k]
/-- once a day passed on which nobody went, all stay -/
theorem stay_days {C : Ct} (hn : 0 ≤ Ct.n C) {e : Nat} (h : (Ct.D (Ct.days C e) (Ct.n (Ct.days C e)).toNat).2.2 = 0) : ∀ t, e ≤ t → Ct.po (Ct.days C t) = Ct.po (Ct.days C e) := by
  intro t ht
  have hn2 : 0 ≤ Ct.n (Ct.days C e) := by rw [(Ct.days_eq C e).2.1]; exact hn
  have h0 : noGo (Ct.days C e) := fun i h1 h2 => (noGo_of _ h).2.2 i h1 (by omega)
  have := (noGo_days hn2 h0 (t - e)).1
  rw [← days_add, show e + (t - e) = t by omega] at this
  exact this
theorem days_g (C : Ct) (j t : Nat) (h : Ct.po (Ct.days C j) = Ct.po (Ct.days C t)) (c : Int) : Ct.g (Ct.days C j) c = Ct.g (Ct.days C t) c := by
  obtain ⟨a1, a2, a3, a4, a5, a6, a7, a8, a9⟩ := Ct.days_eq C j
  obtain ⟨b1, b2, b3, b4, b5, b6, b7, b8, b9⟩ := Ct.days_eq C t
  show gnd (Ct.h (Ct.days C j)) (Ct.n (Ct.days C j)) (Ct.po (Ct.days C j)) (Ct.pr (Ct.days C j)) (Ct.sp (Ct.days C j)) c = gnd (Ct.h (Ct.days C t)) (Ct.n (Ct.days C t)) (Ct.po (Ct.days C t)) (Ct.pr (Ct.days C t)) (Ct.sp (Ct.days C t)) c
  rw [h, a1, a2, a6, a7, b1, b2, b6, b7]
/-! ## going there: as far as one gets -/
theorem wto_rch {h : Int → Int} {n : Int} {pr sp sr : Int → Int} {i al c b : Int} : ∀ (k : Nat) (po : Int → Int), bd po 0 14 → (b = 1 ∨ b = -1) → (0 ≤ c ∧ c ≤ 14) → (if b = 1 then po i ≤ c ∧ c - po i ≤ (k : Int) else c ≤ po i ∧ po i - c ≤ (k : Int)) → (wto h n pr sp sr i al c b k po = 1 ↔ rch h n pr sp sr i al c b k po = c)
  | 0, po, hp, hb, hc, hk => by
    simp only [wto, rch]
    have : po i = c := by
      split at hk <;> omega
    exact ⟨fun _ => this, fun _ => trivial⟩
  | k + 1, po, hp, hb, hc, hk => by
    simp only [wto, rch]
    by_cases q : po i = c
    · rw [if_pos q, if_pos q]
      exact ⟨fun _ => q, fun _ => rfl⟩
    · rw [if_neg q, if_neg q]
      by_cases g : mgo h n pr sp sr (gth n al i po) i b
      · rw [if_pos g, if_pos g]
        refine wto_rch k _ (bd_upz (gth_ok hp) g.1) hb hc ?_
        rw [upz_s, gth_i]
        rcases hb with rfl | rfl
        · rw [if_pos rfl] at hk ⊢
          omega
        · rw [if_neg (by decide)] at hk ⊢
          omega
      · rw [if_neg g, if_neg g]
        exact ⟨fun z => absurd z (by decide), fun z => absurd z q⟩
theorem gth_al0 (n i : Int) (po : Int → Int) : gth n 0 i po = po := by
  funext j
  unfold gth
  rw [if_neg (fun z => btz_0 j z.2.2)]
/-- as far as one gets alone, the class's way -/
theorem wk_rch {h : Int → Int} {n : Int} {pr sp sr : Int → Int} {i b st : Int} (hs : ∀ x : Int, x + b ≤ 14 ∧ 0 ≤ x + b → x ≠ st) : ∀ (k : Nat) (po : Int → Int), bd po 0 14 → rch h n pr sp sr i 0 st b k po = wkF h n pr sp sr i b po k i
  | 0, po, hp => rfl
  | k + 1, po, hp => by
    have hstep : ∀ (m : Nat) (p : Int → Int), mgo h n pr sp sr p i b → wkF h n pr sp sr i b (upz p i (p i + b)) m = wkF h n pr sp sr i b p (m + 1) := by
      intro m
      induction m with
      | zero =>
        intro p g
        show _ = if mgo h n pr sp sr p i b then upz p i (p i + b) else p
        rw [if_pos g]
        rfl
      | succ m ih =>
        intro p g
        show (if mgo h n pr sp sr (wkF h n pr sp sr i b (upz p i (p i + b)) m) i b then _ else _) = (if mgo h n pr sp sr (wkF h n pr sp sr i b p (m + 1)) i b then _ else _)
        rw [ih p g]
    simp only [rch]
    rw [gth_al0]
    by_cases g : mgo h n pr sp sr po i b
    · rw [if_pos g, if_neg (hs (po i) ⟨g.1.2, g.1.1⟩), wk_rch hs k _ (bd_upz hp g.1), hstep k po g]
    · have e := wkF_stop (h := h) (n := n) (pr := pr) (sp := sp) (sr := sr) (i := i) (b := b) (po := po) (k := 0) g (k + 1)
      rw [if_neg g, Nat.zero_add] at *
      rw [e]
      split <;> rfl
theorem gets_iff {C : Ct} (hW : WFc C) {i al c : Int} (hc : 0 ≤ c ∧ c ≤ 14) : Ct.wt C i al c (if c < Ct.po C i then -1 else 1) 15 (Ct.po C) = 1 ↔ q_gets C i al c := by
  have hp := hW.po i
  by_cases h1 : c < Ct.po C i
  · rw [if_pos h1]
    show _ ↔ Ct.rc C i al c (if Ct.po C i < c then 1 else -1) 15 (Ct.po C) = c
    rw [if_neg (by omega)]
    refine wto_rch 15 _ hW.po (Or.inr rfl) hc ?_
    rw [if_neg (by decide)]
    omega
  · rw [if_neg h1]
    show _ ↔ Ct.rc C i al c (if Ct.po C i < c then 1 else -1) 15 (Ct.po C) = c
    by_cases h2 : Ct.po C i < c
    · rw [if_pos h2]
      refine wto_rch 15 _ hW.po (Or.inl rfl) hc ?_
      rw [if_pos rfl]
      omega
    · have e : Ct.po C i = c := by omega
      rw [if_neg h2]
      have a1 : Ct.wt C i al c 1 15 (Ct.po C) = 1 := if_pos e
      have a2 : Ct.rc C i al c (-1) 15 (Ct.po C) = Ct.po C i := if_pos e
      rw [a1, a2]
      exact ⟨fun _ => e, fun _ => rfl⟩
end HQ7b
