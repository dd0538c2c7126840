section HQ4
theorem kp_bits {n : Int} (h : 0 ≤ n ∧ n ≤ 6) {k : Nat} (hk : k < pw n) : iN (((pw n : Nat) : Int) - 1) &&& (iN (k : Int) ^^^ iN (-1)) = iN (((pw n : Nat) : Int) - 1 - (k : Int)) := by
  have hb := pw_b h
  have e := keep_bits n.toNat (by omega) k hk
  have hk : k < 2 ^ n.toNat := hk
  rw [show ((pw n : Nat) : Int) - 1 = ((2 ^ n.toNat - 1 : Nat) : Int) by unfold pw; omega]
  rw [show ((2 ^ n.toNat - 1 : Nat) : Int) - (k : Int) = ((2 ^ n.toNat - 1 - k : Nat) : Int) by omega]
  rw [iN_nat, iN_nat, iN_nat]
  exact e
/-- those in al press nothing -/
def awy (C : Ct) (al : Int) : Ct := Ct.set_pr C (fun i => if btz al i then 0 else Ct.pr C i)
def kpz (C : Ct) : Nat → Int
  | 0 => -4
  | k + 1 => if (kpz C k < 0 ∨ (pc6 (kpz C k).toNat : Int) < (pc6 k : Int)) ∧ Ct.allW (awy C (((pw (Ct.n C) : Nat) : Int) - 1 - (k : Int))) = 0 then (k : Int) else kpz C k
theorem kpz_b (C : Ct) : ∀ k, kpz C k = -4 ∨ (0 ≤ kpz C k ∧ kpz C k < (k : Int))
  | 0 => Or.inl rfl
  | k + 1 => by
    have h := kpz_b C k
    simp only [kpz]
    split <;> omega
theorem kpz_n {C : Ct} {k : Nat} (h : ¬ (kpz C k < 0 ∨ (pc6 (kpz C k).toNat : Int) < (pc6 k : Int))) : kpz C (k + 1) = kpz C k := by
  simp only [kpz]
  rw [if_neg (fun z => h z.1)]
theorem kpz_m {C : Ct} {k : Nat} (h : ¬ Ct.allW (awy C (((pw (Ct.n C) : Nat) : Int) - 1 - (k : Int))) = 0) : kpz C (k + 1) = kpz C k := by
  simp only [kpz]
  rw [if_neg (fun z => h z.2)]
theorem kpz_y {C : Ct} {k : Nat} (h : kpz C k < 0 ∨ (pc6 (kpz C k).toNat : Int) < (pc6 k : Int)) (h2 : Ct.allW (awy C (((pw (Ct.n C) : Nat) : Int) - 1 - (k : Int))) = 0) : kpz C (k + 1) = (k : Int) := by
  simp only [kpz]
  rw [if_pos ⟨h, h2⟩]
/-! ## of another nature -/
def Ct.nat (C : Ct) (i k fg ag : Int) : Ct := (Ct.set_sr (Ct.set_sp (Ct.set_pr (Ct.set_ag (Ct.set_fg (Ct.set_kd C (upz (Ct.kd C) i k)) (upz (Ct.fg C) i fg)) (upz (Ct.ag C) i ag)) (upz (Ct.pr C) i (prF k fg ag))) (upz (Ct.sp C) i (spF k))) (upz (Ct.sr C) i (srF k fg)))
theorem Lc_nat (mh : Int → Int) (mn : Int) (mdy : Int) (mkd : Int → Int) (mfg : Int → Int) (mag : Int → Int) (mpo : Int → Int) (mwy : Int → Int) (i k f g : Int) : Lc mh mn mdy (upz mkd i k) (upz mfg i f) (upz mag i g) mpo mwy = Ct.nat (Lc mh mn mdy mkd mfg mag mpo mwy) i k f g := by
  have e1 : prL (upz mkd i k) (upz mfg i f) (upz mag i g) = upz (prL mkd mfg mag) i (prF k f g) := by
    funext t
    show prF (upz mkd i k t) (upz mfg i f t) (upz mag i g t) = _
    by_cases q : t = i
    · rw [q, upz_s, upz_s, upz_s, upz_s]
    · rw [upz_n q, upz_n q, upz_n q, upz_n q]
  have e2 : spL (upz mkd i k) = upz (spL mkd) i (spF k) := by
    funext t
    show spF (upz mkd i k t) = _
    by_cases q : t = i
    · rw [q, upz_s, upz_s]
    · rw [upz_n q, upz_n q]
  have e3 : srL (upz mkd i k) (upz mfg i f) = upz (srL mkd mfg) i (srF k f) := by
    funext t
    show srF (upz mkd i k t) (upz mfg i f t) = _
    by_cases q : t = i
    · rw [q, upz_s, upz_s, upz_s]
    · rw [upz_n q, upz_n q, upz_n q]
  unfold Lc
  rw [e1, e2, e3]
  rfl
theorem La_awy (mh : Int → Int) (mn : Int) (mdy : Int) (mkd : Int → Int) (mfg : Int → Int) (mag : Int → Int) (mpo : Int → Int) (mwy : Int → Int) (maw : Int) : La mh mn mdy mkd mfg mag mpo mwy maw = awy (Lc mh mn mdy mkd mfg mag mpo mwy) maw := rfl
theorem Lc_ag (mh : Int → Int) (mn : Int) (mdy : Int) (mkd : Int → Int) (mfg : Int → Int) (mag : Int → Int) (mpo : Int → Int) (mwy : Int → Int) (i g : Int) : Lc mh mn mdy mkd mfg (upz mag i g) mpo mwy = Ct.nat (Lc mh mn mdy mkd mfg mag mpo mwy) i (mkd i) (mfg i) g := by
  rw [← Lc_nat, upz_id, upz_id]
theorem Lc_kf (mh : Int → Int) (mn : Int) (mdy : Int) (mkd : Int → Int) (mfg : Int → Int) (mag : Int → Int) (mpo : Int → Int) (mwy : Int → Int) (i k f : Int) : Lc mh mn mdy (upz mkd i k) (upz mfg i f) mag mpo mwy = Ct.nat (Lc mh mn mdy mkd mfg mag mpo mwy) i k f (mag i) := by
  rw [← Lc_nat, upz_id]
theorem WFm.natr {mn : Int} {mh : Int → Int} {mkd : Int → Int} {mfg : Int → Int} {mag : Int → Int} {mpo : Int → Int} {mwy : Int → Int} {mhw : Int → Int} {mkk : Int → Int} {mkf : Int → Int} {mrs : Int → Int} {mrm : Int → Int} {mrw : Int → Int} (h : WFm mn mh mkd mfg mag mpo mwy mhw mkk mkf mrs mrm mrw) {k f g : Int → Int} (hk : bd k 0 7) (hf : bd f 0 9) (hg : bd g 0 120) : WFm mn mh k f g mpo mwy mhw mkk mkf mrs mrm mrw := ⟨h.n, h.h, hk, hf, hg, h.po, h.wy, h.hw, h.kk, h.kf, h.rs, h.rm, h.rw⟩
/-- is the row one's, were he so old -/
def agis (C : Ct) (so i : Int) (v : Int → Int) (m : Nat) (k : Nat) : Int := rok (Ct.nat C i (Ct.kd C i) (Ct.fg C i) (k : Int)) so i v m
def agn (C : Ct) (so i : Int) (v : Int → Int) (m : Nat) : Nat → Int
  | 0 => 0
  | k + 1 => agn C so i v m k + agis C so i v m k
def agl (C : Ct) (so i : Int) (v : Int → Int) (m : Nat) : Nat → Int
  | 0 => -4
  | k + 1 => if agis C so i v m k ≠ 0 ∧ agl C so i v m k < 0 then (k : Int) else agl C so i v m k
def agg (C : Ct) (so i : Int) (v : Int → Int) (m : Nat) : Nat → Int
  | 0 => -4
  | k + 1 => if agis C so i v m k ≠ 0 then (k : Int) else agg C so i v m k
theorem agl_b (C : Ct) (so i : Int) (v : Int → Int) (m : Nat) : ∀ k, agl C so i v m k = -4 ∨ (0 ≤ agl C so i v m k ∧ agl C so i v m k < (k : Int))
  | 0 => Or.inl rfl
  | k + 1 => by
    have h := agl_b C so i v m k
    simp only [agl]
    split <;> omega
def q_ages (d hd so sz : Int) (v : Int → Int) (C : Ct) (i w : Int) : Int := if q_one C i ∧ 0 ≤ w ∧ w ≤ 2 then q_wr d hd 2 (if w = 0 then agn C so i v sz.toNat 121 else if w = 1 then agl C so i v sz.toNat 121 else agg C so i v sz.toNat 121) else -1
/-- is the row one's, were he of that kind or figure -/
def whis (C : Ct) (so i : Int) (v : Int → Int) (m : Nat) (w t : Int) : Int := rok (Ct.nat C i (if w = 0 then t else Ct.kd C i) (if w = 1 then t else Ct.fg C i) (Ct.ag C i)) so i v m
def q_whatIs (d hd so sz : Int) (v : Int → Int) (C : Ct) (i w : Int) : Int := if q_one C i ∧ 0 ≤ w ∧ w ≤ 1 then q_wr d hd 2 (bitz (fun t => whis C so i v sz.toNat w t ≠ 0) (if w = 0 then 8 else 10)) else -1
/-! ## two -/
theorem upz4 {f : Int → Int} {i j x y p q : Int} (h : i ≠ j) : upz (upz (upz (upz f i x) j y) i p) j q = upz (upz f i p) j q := by
  funext t
  by_cases h1 : t = j
  · subst h1
    rw [upz_s, upz_s]
  · rw [upz_n h1, upz_n h1]
    by_cases h2 : t = i
    · subst h2
      rw [upz_s, upz_s]
    · rw [upz_n h2, upz_n h2, upz_n h1, upz_n h2]
def tpa (C : Ct) (i j k : Int) : Int := if k / 2 = 1 then Ct.po C j else Ct.po C i
def tpb (C : Ct) (i j k : Int) : Int := if k % 2 = 1 then Ct.po C i else Ct.po C j
def twC (C : Ct) (i j k : Int) : Ct := Ct.set_po C (upz (upz (Ct.po C) i (tpa C i j k)) j (tpb C i j k))
def twu (C : Ct) (i j k : Int) : Int := Ct.g (twC C i j k) (tpa C i j k)
def twv (C : Ct) (i j k : Int) : Int := Ct.g (twC C i j k) (tpb C i j k)
theorem tpa_b {C : Ct} (hW : WFc C) (i j k : Int) : 0 ≤ tpa C i j k ∧ tpa C i j k ≤ 14 := by
  unfold tpa
  split
  · exact hW.po j
  · exact hW.po i
theorem tpb_b {C : Ct} (hW : WFc C) (i j k : Int) : 0 ≤ tpb C i j k ∧ tpb C i j k ≤ 14 := by
  unfold tpb
  split
  · exact hW.po i
  · exact hW.po j
theorem twC_w {C : Ct} (hW : WFc C) (i j k : Int) : WFc (twC C i j k) := hW.posn (bd_upz (bd_upz hW.po (tpa_b hW i j k)) (tpb_b hW i j k))
theorem twu_b {C : Ct} (hW : WFc C) (i j k : Int) : 0 ≤ twu C i j k ∧ twu C i j k ≤ 20 := (twC_w hW i j k).g _
theorem twv_b {C : Ct} (hW : WFc C) (i j k : Int) : 0 ≤ twv C i j k ∧ twv C i j k ≤ 20 := (twC_w hW i j k).g _
/-- 0 where both are content -/
def twf (C : Ct) (i j : Int) (t : Nat) : Int := if twu C i j (t : Int) ≤ twu C i j (2 * (1 - (t : Int) / 2) + (t : Int) % 2) ∧ twv C i j (t : Int) ≤ twv C i j (2 * ((t : Int) / 2) + 1 - (t : Int) % 2) then 0 else 1
def q_two (C : Ct) (i j : Int) : Int := if q_one C i ∧ q_one C j ∧ i ≠ j then (if fstz (twf C i j) 4 < 0 then -4 else 10 * (fstz (twf C i j) 4 / 2) + fstz (twf C i j) 4 % 2) else -1
/-! ## fog -/
def clz (m : Int) : Nat → Nat
  | 0 => 0
  | j + 1 => if btz m (j : Int) then clz m j else clz m j + 1
theorem clz_b (m : Int) : ∀ j, clz m j ≤ j
  | 0 => by simp [clz]
  | j + 1 => by
    have := clz_b m j
    simp only [clz]
    split <;> omega
def fgs (C : Ct) (i c t : Int) (n : Nat) : Nat → Int
  | 0 => 0
  | m + 1 => fgs C i c t n m + (if Ct.po (Ct.days C (clz (m : Int) n)) i = c then (t - 1) ^ clz (m : Int) n else 0)
theorem pow_t0 : ∀ t : Nat, t < 21 → ∀ k : Nat, k < 8 → t ^ k ≤ 1280000000 := by decide +kernel
theorem pow_b {t : Int} (h : 0 ≤ t ∧ t ≤ 20) {k : Nat} (hk : k ≤ 7) : 0 ≤ t ^ k ∧ t ^ k ≤ 1280000000 := by
  have e := pow_t0 t.toNat (by omega) k (by omega)
  have e2 : t ^ k = ((t.toNat ^ k : Nat) : Int) := by
    rw [Int.natCast_pow]
    congr 1
    omega
  rw [e2]
  omega
theorem fgs_b {C : Ct} {i c t : Int} {n : Nat} (ht : 2 ≤ t ∧ t ≤ 20) (hn : n ≤ 7) : ∀ m, 0 ≤ fgs C i c t n m ∧ fgs C i c t n m ≤ 1280000000 * (m : Int)
  | 0 => by simp [fgs]
  | m + 1 => by
    have h1 := fgs_b (C := C) (i := i) (c := c) ht hn m
    have h2 := pow_b (t := t - 1) (by omega) (k := clz (m : Int) n) (by have := clz_b (m : Int) n; omega)
    simp only [fgs]
    split <;> omega
theorem pw_b7 {n : Int} (h : 0 ≤ n ∧ n ≤ 7) : 1 ≤ pw n ∧ pw n ≤ 128 := by
  have h1 : (2 : Nat) ^ n.toNat ≤ 2 ^ 7 := Nat.pow_le_pow_right (by decide) (by omega)
  have h2 : 0 < (2 : Nat) ^ n.toNat := Nat.pow_pos (by decide)
  exact ⟨h2, h1⟩
theorem iN_shlp7 {n : Int} (h : 0 ≤ n ∧ n ≤ 7) : iN 1 <<< (iN n &&& 31) = iN ((pw n : Nat) : Int) := by
  rw [iN_shl1 (by omega)]
  unfold pw
  norm_cast
def q_fog (C : Ct) (i c n t w : Int) : Int := if (q_one C i ∧ q_cell c) ∧ (0 ≤ n ∧ n ≤ 7) ∧ (2 ≤ t ∧ t ≤ 20) ∧ 0 ≤ w ∧ w ≤ 1 then q_part (fgs C i c t n.toNat (pw n)) (t ^ n.toNat) w else 1000000001
/-! ## countries -/
def sdn (s : Int) : Nat → Int
  | 0 => s
  | k + 1 => lcg (lcg (sdn s k))
def drP (po : Int → Int) (s : Int) : Nat → Int → Int
  | 0 => po
  | k + 1 => upz (drP po s k) (k : Int) (lcr (sdn s k) 15)
def drW (wy : Int → Int) (s : Int) : Nat → Int → Int
  | 0 => wy
  | k + 1 => upz (drW wy s k) (k : Int) (lcr (lcg (sdn s k)) 3 - 1)
theorem drP_b {po : Int → Int} (h : bd po 0 14) (s : Int) : ∀ k, bd (drP po s k) 0 14
  | 0 => h
  | k + 1 => bd_upz (drP_b h s k) (by have := lcr_b (s := sdn s k) (n := 15) (by omega); omega)
theorem drW_b {wy : Int → Int} (h : bd wy (-1) 1) (s : Int) : ∀ k, bd (drW wy s k) (-1) 1
  | 0 => h
  | k + 1 => bd_upz (drW_b h s k) (by have := lcr_b (s := lcg (sdn s k)) (n := 3) (by omega); omega)
def drC (C : Ct) (s : Int) : Ct := Ct.set_wy (Ct.set_po C (drP (Ct.po C) s (Ct.n C).toNat)) (drW (Ct.wy C) s (Ct.n C).toNat)
theorem drC_w {C : Ct} (hW : WFc C) (s : Int) : WFc (drC C s) := hW.pw (drP_b hW.po s _) (drW_b hW.wy s _)
def ctv (C : Ct) (s w : Int) : Int := if w = 0 then Ct.allW (Ct.days (drC C s) 10) else sumz (edz (Ct.po (Ct.days (drC C s) 10))) (Ct.n C).toNat
def cts (C : Ct) (z : Int) : Nat → Int
  | 0 => z
  | k + 1 => sdn (cts C z k) (Ct.n C).toNat
def ctz (C : Ct) (z w : Int) : Nat → Int
  | 0 => 0
  | k + 1 => ctz C z w k + ctv C (cts C z k) w
def q_countries (C : Ct) (n z w : Int) : Int := if (1 ≤ n ∧ n ≤ 20) ∧ 0 ≤ w ∧ w ≤ 1 then ctz C z w n.toNat else -1
end HQ4
