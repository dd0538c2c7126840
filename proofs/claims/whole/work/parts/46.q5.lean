section HQ5
/-- an element of a row of sz, 0 where none is -/
def uz (v : Int → Int) (sz i : Int) : Int := if 0 ≤ i ∧ i ≤ sz - 1 then v i else 0
theorem uz_b {v : Int → Int} {sz i : Int} (h : -2147483648 ≤ v i ∧ v i ≤ 2147483647) : -2147483648 ≤ uz v sz i ∧ uz v sz i ≤ 2147483647 := by
  unfold uz
  omega
theorem here_u {v : Int → Int} {sz p z : Int} (hp : 0 ≤ p) (hz : z = if p < sz then v p else -999) : z = uz v sz p ∨ (z = -999 ∧ uz v sz p = 0) := by
  unfold uz
  omega
/-! ## digits -/
theorem ldz_le (u : Int → Int) : ∀ (m : Nat) (p : Int), ldz u p m ≤ m
  | 0, _ => Nat.le_refl 0
  | m + 1, p => by
    have h := ldz_le u m (p + 1)
    simp only [ldz]
    split <;> omega
theorem ldz_go {u : Int → Int} : ∀ {a : Nat} {p : Int} (b : Nat), ldz u p a = a → ldz u p (a + b) = a + ldz u (p + (a : Int)) b
  | 0, p, b, _ => by
    rw [Nat.zero_add, Nat.zero_add]
    congr 1
    omega
  | a + 1, p, b, h => by
    have h0 := ldz_le u a (p + 1)
    rw [show a + 1 + b = (a + b) + 1 by omega]
    simp only [ldz] at h ⊢
    by_cases q : dig (u p)
    · rw [if_pos q] at h ⊢
      rw [ldz_go b (by omega), show p + 1 + (a : Int) = p + ((a + 1 : Nat) : Int) by omega]
      omega
    · rw [if_neg q] at h
      omega
theorem ldz_no {u : Int → Int} : ∀ {a : Nat} {p : Int} (b : Nat), ldz u p a < a → ldz u p (a + b) = ldz u p a
  | 0, _, _, h => by omega
  | a + 1, p, b, h => by
    rw [show a + 1 + b = (a + b) + 1 by omega]
    simp only [ldz] at h ⊢
    by_cases q : dig (u p)
    · rw [if_pos q] at h ⊢
      rw [if_pos q, ldz_no b (by omega)]
    · rw [if_neg q, if_neg q]
theorem ldz_go2 {u : Int → Int} {a : Nat} {p q : Int} (b : Nat) (hq : q = p + (a : Int)) (h : ldz u p a = a) : ldz u p (a + b) = a + ldz u q b := by
  subst hq
  exact ldz_go b h
theorem dgz_let {c : Int} (h : 0 ≤ dgz c) : c = 103 ∨ c = 119 ∨ c = 109 ∨ c = 121 ∨ c = 100 := by
  revert h
  unfold dgz
  omega
def rdI (u : Int → Int) (p : Int) (m k : Nat) (ib pl v : Int) : Prop := (ib = 0 ∧ pl = p + (k : Int) ∧ v = numz u p k ∧ ldz u p m = k + ldz u (p + (k : Int)) (m - k)) ∨ (ib = 1 ∧ v = 0 ∧ pl = p + (ldz u p m : Int) ∧ ldz u p m < m)
theorem rdI_0 (u : Int → Int) (p : Int) (m : Nat) : rdI u p m 0 0 p 0 := Or.inl ⟨rfl, by omega, rfl, by
  rw [Nat.zero_add, Nat.sub_zero]
  congr 1
  omega⟩
theorem rdI_b {u : Int → Int} {p : Int} {m k : Nat} {ib pl v : Int} (hk : k ≤ m) (h : rdI u p m k ib pl v) : (ib = 0 ∨ ib = 1) ∧ p ≤ pl ∧ pl ≤ p + (m : Int) := by
  rcases h with ⟨h1, h2, -, -⟩ | ⟨h1, -, h2, h3⟩ <;> omega
theorem rdI_s {u : Int → Int} {p : Int} {m k : Nat} {ib pl v s e v' : Int} (hk : k < m) (h : rdI u p m k ib pl v) (hs : s = if ib = 0 ∧ dig (u pl) then 0 else 1) (hv : v' = if s = 0 then 10 * v + u pl - 48 else 0) (he : e = if s = 0 then 1 else 0) : rdI u p m (k + 1) s (pl + e) v' := by
  rcases h with ⟨h1, h2, h3, h4⟩ | ⟨h1, h2, h3, h4⟩
  · subst h2
    have hmk : m - k = (m - (k + 1)) + 1 := by omega
    by_cases q : dig (u (p + (k : Int)))
    · have hs0 : s = 0 := by rw [hs, if_pos ⟨h1, q⟩]
      left
      refine ⟨hs0, ?_, ?_, ?_⟩
      · rw [he, if_pos hs0]; omega
      · rw [hv, if_pos hs0, h3]; simp only [numz]; omega
      · rw [h4, hmk]
        simp only [ldz]
        rw [if_pos q, show p + (k : Int) + 1 = p + ((k + 1 : Nat) : Int) by omega]
        omega
    · have hs1 : s = 1 := by rw [hs, if_neg (fun z => q z.2)]
      have h0 : ldz u (p + (k : Int)) (m - k) = 0 := by
        rw [hmk]
        simp only [ldz]
        rw [if_neg q]
      rw [h0] at h4
      right
      refine ⟨hs1, ?_, ?_, by omega⟩
      · rw [hv, if_neg (by omega)]
      · rw [he, if_neg (by omega), h4]; omega
  · have hs1 : s = 1 := by rw [hs, if_neg (fun z => by omega)]
    right
    refine ⟨hs1, ?_, ?_, h4⟩
    · rw [hv, if_neg (by omega)]
    · rw [he, if_neg (by omega), h3]; omega
theorem rdI_end {u : Int → Int} {p : Int} {m k : Nat} {ib pl v : Int} (hk : k = m) (h : rdI u p m k ib pl v) : (ldz u p m = m ∧ ib = 0 ∧ pl = p + (m : Int) ∧ v = numz u p m) ∨ (ldz u p m < m ∧ ib = 1 ∧ pl = p + (ldz u p m : Int) ∧ v = 0) := by
  subst hk
  rcases h with ⟨h1, h2, h3, h4⟩ | ⟨h1, h2, h3, h4⟩
  · left
    refine ⟨?_, h1, h2, h3⟩
    rw [h4, Nat.sub_self]
    rfl
  · exact Or.inr ⟨h4, h1, h3, h2⟩
theorem numz_d {u : Int → Int} {p : Int} : ∀ {m : Nat}, ldz u p m = m → 0 ≤ numz u p m ∧ numz u p m < 10 ^ m
  | 0, _ => by simp [numz]
  | m + 1, h => by
    have h1 : ldz u p m = m := by
      have e := ldz_le u m p
      by_cases q : ldz u p m < m
      · have := ldz_no 1 q
        omega
      · omega
    have h2 := numz_d h1
    have h3 := ldz_go 1 h1
    rw [h] at h3
    have h4 : ldz u (p + (m : Int)) 1 = 1 := by omega
    have h5 : dig (u (p + (m : Int))) := by
      by_cases q : dig (u (p + (m : Int)))
      · exact q
      · simp only [ldz] at h4
        rw [if_neg q] at h4
        omega
    have e : (10 : Int) ^ (m + 1) = 10 ^ m * 10 := Int.pow_succ ..
    simp only [numz]
    omega
/-! ## what a statement tells: letter c, its digits from p on -/
def tA (u : Int → Int) (c p : Int) : Int := if c = 103 ∨ c = 100 then numz u p 2 else numz u p 1
def tB (u : Int → Int) (c p : Int) : Int := if c = 103 then numz u (p + 2) 2 else if c = 109 then numz u (p + 1) 2 else numz u (p + 1) 1
def tC (u : Int → Int) (p : Int) : Int := numz u (p + 2) 3
def tD (u : Int → Int) (p : Int) : Int := numz u (p + 5) 2
/-- numbers told at place k stand as they must -/
def tldI (u : Int → Int) (c p : Int) (T : Int → Int) (i : Int) : Prop := T i = tA u c p ∧ (c ≠ 100 → T (i + 1) = tB u c p) ∧ (c = 119 → T (i + 2) = tC u p ∧ T (i + 3) = tD u p)
/-! ## what it does -/
def sck (c x y e f : Int) (C : Ct) : Int :=
  if c = 103 then (if (0 ≤ x ∧ x ≤ 14) ∧ 0 ≤ y ∧ y ≤ 20 then 1 else 0) else
  if c = 119 then (if (0 ≤ x ∧ x ≤ 7) ∧ (0 ≤ y ∧ y ≤ 9) ∧ (0 ≤ e ∧ e ≤ 120) ∧ (0 ≤ f ∧ f ≤ 14) ∧ Ct.n C < 6 then 1 else 0) else
  if c = 109 then (if (0 ≤ x ∧ x ≤ Ct.n C - 1) ∧ 0 ≤ y ∧ y ≤ 14 then 1 else 0) else
  if c = 121 then (if (0 ≤ x ∧ x ≤ Ct.n C - 1) ∧ 0 ≤ y ∧ y ≤ 2 then 1 else 0) else
  (if (1 ≤ x ∧ x ≤ 60) ∧ Ct.dy C + x ≤ 999 then 1 else 0)
def Ct.come (C : Ct) (k fg ag c : Int) : Ct := Ct.set_n (Ct.set_wy (Ct.set_po (Ct.nat C (Ct.n C) k fg ag) (upz (Ct.po C) (Ct.n C) c)) (upz (Ct.wy C) (Ct.n C) 0)) (Ct.n C + 1)
def wyz (t : Int) : Int := if t = 0 then 0 else if t = 1 then -1 else 1
def snc (c x y e f : Int) (C : Ct) : Ct :=
  if c = 103 then Ct.set_h C (upz (Ct.h C) x y) else
  if c = 119 then Ct.come C x y e f else
  if c = 109 then Ct.set_po C (upz (Ct.po C) x y) else
  if c = 121 then Ct.set_wy C (upz (Ct.wy C) x (wyz y)) else Ct.days C x.toNat
theorem sck_01 (c x y e f : Int) (C : Ct) : sck c x y e f C = 0 ∨ sck c x y e f C = 1 := by
  unfold sck
  omega
def sok (u : Int → Int) (p : Int) (C : Ct) : Int := sck (u p) (tA u (u p) (p + 1)) (tB u (u p) (p + 1)) (tC u (p + 1)) (tD u (p + 1)) C
def snx (u : Int → Int) (p : Int) (C : Ct) : Ct := snc (u p) (tA u (u p) (p + 1)) (tB u (u p) (p + 1)) (tC u (p + 1)) (tD u (p + 1)) C
/-- statements carried out, one behind the other -/
def runS (u : Int → Int) (sz : Int) : Nat → Int → Int → Ct → Int × Ct
  | 0, _, s, C => (s, C)
  | k + 1, p, s, C => if p < sz then (if sok u p C = 1 then runS u sz k (p + dgz (u p) + 2) (s + 1) (snx u p C) else (-2000 - p, C)) else (s, C)
theorem runS_end {u : Int → Int} {sz p s : Int} {C : Ct} (h : ¬ p < sz) : ∀ k, runS u sz k p s C = (s, C)
  | 0 => rfl
  | k + 1 => by
    simp only [runS]
    rw [if_neg h]
theorem runS_go {u : Int → Int} {sz p s : Int} {C : Ct} (k : Nat) (h : p < sz) (h1 : sok u p C = 1) : runS u sz (k + 1) p s C = runS u sz k (p + dgz (u p) + 2) (s + 1) (snx u p C) := by
  simp only [runS]
  rw [if_pos h, if_pos h1]
theorem runS_no {u : Int → Int} {sz p s : Int} {C : Ct} (k : Nat) (h : p < sz) (h1 : sok u p C = 0) : runS u sz (k + 1) p s C = (-2000 - p, C) := by
  simp only [runS]
  rw [if_pos h, if_neg (by omega)]
def q_country (d hd so sz : Int) (u : Int → Int) (C : Ct) : Int := q_wr d hd 2 (if so ≠ 0 then -12 else if 0 ≤ fbad u sz 101 0 then -1000 - fbad u sz 101 0 else (runS u sz 100 0 0 C).1)
/-! ## where the statements begin -/
def pz (u : Int → Int) : Nat → Int
  | 0 => 0
  | k + 1 => pz u k + dgz (u (pz u k)) + 2
/-- k statements are read, and stand in P, L, T -/
def rdS (u : Int → Int) (sz : Int) (k : Nat) (A L T : Int → Int) : Prop :=
  (∀ s : Nat, s < k → A (s : Int) = pz u s ∧ L (s : Int) = u (pz u s) ∧ sbad u (pz u s) = -1 ∧ tldI u (u (pz u s)) (pz u s + 1) T (4 * (s : Int))) ∧ (∀ s : Nat, 0 < s → s < k → pz u s < sz) ∧ 4 * (k : Int) ≤ pz u k ∧ ((k = 0 ∨ pz u k < sz) → fbad u sz 101 0 = fbad u sz (101 - k) (pz u k)) ∧ (0 < k → ¬ pz u k < sz → fbad u sz 101 0 = -1)
theorem sbad_ok {u : Int → Int} {p : Int} (hp : 0 ≤ p) (h : sbad u p = -1) : 2 ≤ dgz (u p) ∧ ldz u (p + 1) (dgz (u p)).toNat = (dgz (u p)).toNat := by
  have h0 := ldz_le u (dgz (u p)).toNat (p + 1)
  unfold sbad at h
  split at h
  · omega
  · split at h
    · omega
    · refine ⟨?_, by omega⟩
      have : ¬ dgz (u p) < 0 := by assumption
      revert this
      unfold dgz
      omega
theorem rdS_0 (u : Int → Int) (sz : Int) (A L T : Int → Int) : rdS u sz 0 A L T := ⟨fun s h => absurd h (Nat.not_lt_zero _), fun s _ h => absurd h (Nat.not_lt_zero _), by simp [pz], fun _ => rfl, fun h => absurd h (Nat.lt_irrefl _)⟩
theorem rdS_s {u : Int → Int} {sz : Int} {k : Nat} {A L T T' : Int → Int} (hk : k ≤ 100) (h : rdS u sz k A L T) (h0 : k = 0 ∨ pz u k < sz) (hb : sbad u (pz u k) = -1) (hT : ∀ j : Int, j < 4 * (k : Int) → T' j = T j) (ht : tldI u (u (pz u k)) (pz u k + 1) T' (4 * (k : Int))) : rdS u sz (k + 1) (upz A (k : Int) (pz u k)) (upz L (k : Int) (u (pz u k))) T' := by
  obtain ⟨h3, h4, h5, h6, -⟩ := h
  have hd := sbad_ok (by omega) hb
  have hf : fbad u sz 101 0 = if pz u (k + 1) < sz then fbad u sz (101 - (k + 1)) (pz u (k + 1)) else -1 := by
    rw [h6 h0, show 101 - k = (101 - (k + 1)) + 1 by omega]
    simp only [fbad, pz]
    rw [hb, if_neg (by omega)]
    rfl
  refine ⟨fun s hs => ?_, fun s hs1 hs2 => ?_, ?_, fun q => ?_, fun _ q => ?_⟩
  · by_cases q : s = k
    · subst q
      exact ⟨upz_s _ _ _, upz_s _ _ _, hb, ht⟩
    · obtain ⟨e1, e2, e3, e4⟩ := h3 s (by omega)
      refine ⟨by rw [upz_n (by omega)]; exact e1, by rw [upz_n (by omega)]; exact e2, e3, ?_⟩
      obtain ⟨a1, a2, a3⟩ := e4
      exact ⟨by rw [hT _ (by omega)]; exact a1, fun z => by rw [hT _ (by omega)]; exact a2 z, fun z => ⟨by rw [hT _ (by omega)]; exact (a3 z).1, by rw [hT _ (by omega)]; exact (a3 z).2⟩⟩
  · by_cases q : s = k
    · subst q
      omega
    · exact h4 s hs1 (by omega)
  · simp only [pz]
    omega
  · rw [hf, if_pos (by omega)]
  · rw [hf, if_neg q]
theorem rdS_f {u : Int → Int} {sz : Int} {k : Nat} {A L T : Int → Int} (hk : k ≤ 100) (h : rdS u sz k A L T) (h0 : k = 0 ∨ pz u k < sz) (hb : 0 ≤ sbad u (pz u k)) : fbad u sz 101 0 = sbad u (pz u k) := by
  rw [h.2.2.2.1 h0, show 101 - k = (100 - k) + 1 by omega]
  exact fbad_bad _ rfl hb
theorem uz_pos {v : Int → Int} {sz p : Int} (h : 2 ≤ dgz (uz v sz p)) : 0 ≤ p ∧ p < sz := by
  by_cases q : 0 ≤ p ∧ p ≤ sz - 1
  · omega
  · unfold uz at h
    rw [if_neg q] at h
    exact absurd h (by decide)
theorem pz_le {u : Int → Int} {sz : Int} {k : Nat} {A L T : Int → Int} (h : rdS u sz k A L T) (hs : sz ≤ 100) (h0 : k = 0 ∨ pz u k < sz) : k ≤ 24 ∧ pz u k ≤ 99 ∧ 0 ≤ pz u k := by
  have h1 := h.2.2.1
  rcases h0 with h0 | h0
  · subst h0
    simp [pz]
  · omega
end HQ5
