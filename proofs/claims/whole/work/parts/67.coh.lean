section HCOH
/-- another stride, other waters -/
def K3 (C : Ct) (s z : Int → Int) : Ct := Ct.set_wa (Ct.set_sr C s) z
def agr (C : Ct) (s : Int → Int) : Prop := ∀ i : Int, 0 ≤ i → i < Ct.n C → s i = Ct.sr C i
theorem stp_k {h : Int → Int} {n : Int} {pr sp sr s : Int → Int} {d : Dv} {i : Int} (e : s i = sr i) : stp h n pr sp s d i = stp h n pr sp sr d i := by
  simp only [stp, mgo, e]
theorem dayS_k {h : Int → Int} {n : Int} {pr sp sr s : Int → Int} {d : Dv} (hs : ∀ i : Int, 0 ≤ i → i < n → s i = sr i) : ∀ k : Nat, (k : Int) ≤ n → dayS h n pr sp s d k = dayS h n pr sp sr d k
  | 0, _ => rfl
  | k + 1, hk => by
    simp only [dayS]
    rw [dayS_k hs k (by omega)]
    exact stp_k (hs k (by omega) (by omega))
theorem day_k {C : Ct} {s z : Int → Int} (hn : 0 ≤ Ct.n C) (hs : agr C s) : Ct.day (K3 C s z) = K3 (Ct.day C) s z := by
  have e : Ct.D (K3 C s z) (Ct.n C).toNat = Ct.D C (Ct.n C).toNat := dayS_k hs _ (by omega)
  show Ct.set_wy (Ct.set_po (Ct.set_dy (K3 C s z) (Ct.dy C + 1)) (Ct.D (K3 C s z) (Ct.n C).toNat).1) (Ct.D (K3 C s z) (Ct.n C).toNat).2.1 = _
  rw [e]
  rfl
theorem agr_days {C : Ct} {s : Int → Int} (hs : agr C s) (k : Nat) : agr (Ct.days C k) s := by
  intro i h0 h1
  obtain ⟨-, e1, -, -, -, -, -, e2⟩ := Ct.days_eq C k
  rw [e1] at h1
  have e2 : Ct.sr (Ct.days C k) = Ct.sr C := by first | exact e2 | exact e2.1
  rw [e2]
  exact hs i h0 h1
theorem days_k {C : Ct} {s z : Int → Int} (hn : 0 ≤ Ct.n C) (hs : agr C s) : ∀ k : Nat, Ct.days (K3 C s z) k = K3 (Ct.days C k) s z
  | 0 => rfl
  | k + 1 => by
    show Ct.day (Ct.days (K3 C s z) k) = K3 (Ct.day (Ct.days C k)) s z
    rw [days_k hn hs k]
    exact day_k (by rw [(Ct.days_eq C k).2.1]; exact hn) (agr_days hs k)
theorem rch_k {h : Int → Int} {n : Int} {pr sp sr s : Int → Int} {i al stop b : Int} (e : s i = sr i) : ∀ (k : Nat) (po : Int → Int), rch h n pr sp s i al stop b k po = rch h n pr sp sr i al stop b k po
  | 0, _ => rfl
  | k + 1, po => by simp only [rch, mgo, e, rch_k e k]
theorem rc_k {C : Ct} {s z : Int → Int} {i : Int} (e : s i = Ct.sr C i) (al stop b : Int) (k : Nat) (po : Int → Int) : Ct.rc (K3 C s z) i al stop b k po = Ct.rc C i al stop b k po := rch_k e k po
theorem po_k (X : Ct) (s z : Int → Int) : Ct.po (K3 X s z) = Ct.po X := rfl
theorem g_k (X : Ct) (s z : Int → Int) (c : Int) : Ct.g (K3 X s z) c = Ct.g X c := rfl
theorem gf_k (X : Ct) (s z : Int → Int) : Ct.g (K3 X s z) = Ct.g X := rfl
theorem w_k (X : Ct) (s z : Int → Int) (c : Int) : Ct.w (K3 X s z) c = Ct.w X c := rfl
theorem allW_k (X : Ct) (s z : Int → Int) : Ct.allW (K3 X s z) = Ct.allW X := rfl
theorem one_k {X : Ct} {s z : Int → Int} {i : Int} (h : q_one X i) : q_one (K3 X s z) i := h
section HQS
variable {C : Ct} {s z : Int → Int}
theorem k_height (c : Int) : q_height (K3 C s z) c = q_height C c := rfl
theorem k_ground (c : Int) : q_ground (K3 C s z) c = q_ground C c := rfl
theorem k_water (c : Int) : q_water (K3 C s z) c = q_water C c := rfl
theorem k_lakes : q_lakes (K3 C s z) = q_lakes C := rfl
theorem k_steepest (w : Int) : q_steepest (K3 C s z) w = q_steepest C w := rfl
theorem k_mean (w : Int) : q_mean (K3 C s z) w = q_mean C w := rfl
theorem k_count (w : Int) : q_count (K3 C s z) w = q_count C w := rfl
theorem k_fg (v : Int → Int) : q_fg (K3 C s z) v = q_fg C v := rfl
theorem k_two (i j : Int) : q_two (K3 C s z) i j = q_two C i j := rfl
theorem k_walker (hs : agr C s) (i w : Int) : q_walker (K3 C s z) i w = q_walker C i w := by
  unfold q_walker
  by_cases q : q_one C i
  · rw [if_pos q, if_pos (one_k q)]
    have e : Ct.sr (K3 C s z) i = Ct.sr C i := hs i q.1 (by have := q.2; omega)
    unfold q_walk
    rw [e]
    try rfl
  · rw [if_neg q]
    exact if_neg (fun y => q y)
theorem k_behind (hn : 0 ≤ Ct.n C) (hs : agr C s) (i m : Int) : q_behind (K3 C s z) i m = q_behind C i m := by
  unfold q_behind
  rw [days_k hn hs]
  try rfl
theorem k_then (hn : 0 ≤ Ct.n C) (hs : agr C s) (c m : Int) : q_then (K3 C s z) c m = q_then C c m := by
  unfold q_then
  rw [days_k hn hs]
  try rfl
theorem k_arrives (hn : 0 ≤ Ct.n C) (hs : agr C s) (i c : Int) : q_arrives (K3 C s z) i c = q_arrives C i c := by
  unfold q_arrives
  rw [show (fun t => Ct.po (Ct.days (K3 C s z) t) i - c) = fun t => Ct.po (Ct.days C t) i - c from funext fun t => by rw [days_k hn hs, po_k]]
  try rfl
theorem k_stuck (hn : 0 ≤ Ct.n C) (hs : agr C s) (i : Int) : q_stuck (K3 C s z) i = q_stuck C i := by
  unfold q_stuck
  rw [show (fun t => Ct.po (Ct.days (K3 C s z) (t + 1)) i - Ct.po (Ct.days (K3 C s z) t) i) = fun t => Ct.po (Ct.days C (t + 1)) i - Ct.po (Ct.days C t) i from funext fun t => by rw [days_k hn hs, days_k hn hs, po_k, po_k]]
  try rfl
theorem in_k (hs : agr C s) {i : Int} (q : q_one C i) : s i = Ct.sr C i := hs i q.1 (by have := q.2; omega)
theorem gets_k {i : Int} (e : s i = Ct.sr C i) (al c : Int) : q_gets (K3 C s z) i al c ↔ q_gets C i al c := by
  show Ct.rc (K3 C s z) i al c (if Ct.po C i < c then 1 else -1) 15 (Ct.po C) = c ↔ _
  rw [rc_k e]
theorem k_goes (hs : agr C s) (i c : Int) : q_goes (K3 C s z) i c = q_goes C i c := by
  unfold q_goes
  by_cases q : q_one C i ∧ q_cell c
  · rw [if_pos q, if_pos (show q_one (K3 C s z) i ∧ q_cell c from q)]
    have h := gets_k (z := z) (in_k hs q.1) 0 c
    by_cases y : q_gets C i 0 c
    · rw [if_pos y, if_pos (h.mpr y)]
    · rw [if_neg y, if_neg (fun x => y (h.mp x))]
  · rw [if_neg q]
    exact if_neg (fun y => q y)
theorem k_far (hs : agr C s) (i w : Int) : q_far (K3 C s z) i w = q_far C i w := by
  unfold q_far
  by_cases q : q_one C i ∧ 0 ≤ w ∧ w ≤ 1
  · rw [if_pos q, if_pos (show q_one (K3 C s z) i ∧ 0 ≤ w ∧ w ≤ 1 from q), rc_k (in_k hs q.1), rc_k (in_k hs q.1), po_k]
  · rw [if_neg q]
    exact if_neg (fun y => q y)
theorem cmpz_k {i : Int} (e : s i = Ct.sr C i) (c : Int) : ∀ k, cmpz (K3 C s z) i c k = cmpz C i c k
  | 0 => rfl
  | k + 1 => by
    have h := gets_k (z := z) e (k : Int) c
    unfold cmpz
    rw [cmpz_k e c k]
    by_cases y : (cmpz C i c k < 0 ∨ (pc6 k : Int) < (pc6 (cmpz C i c k).toNat : Int)) ∧ ¬ btz (k : Int) i ∧ q_gets C i (k : Int) c
    · rw [if_pos y, if_pos ⟨y.1, y.2.1, h.mpr y.2.2⟩]
    · rw [if_neg y, if_neg (fun x => y ⟨x.1, x.2.1, h.mp x.2.2⟩)]
theorem k_company (hs : agr C s) (i c : Int) : q_company (K3 C s z) i c = q_company C i c := by
  unfold q_company
  by_cases q : q_one C i ∧ q_cell c
  · rw [if_pos q, if_pos (show q_one (K3 C s z) i ∧ q_cell c from q), cmpz_k (in_k hs q.1)]
    try rfl
  · rw [if_neg q]
    exact if_neg (fun y => q y)
theorem pay_k (al : Int) : q_pay (K3 C s z) al = q_pay C al := rfl
theorem hrz_k {i : Int} (e : s i = Ct.sr C i) (c : Int) : ∀ k, hrz (K3 C s z) i c k = hrz C i c k
  | 0 => rfl
  | k + 1 => by
    have h := gets_k (z := z) e (k : Int) c
    unfold hrz
    rw [hrz_k e c k, pay_k, pay_k]
    by_cases y : (hrz C i c k < 0 ∨ q_pay C (k : Int) < q_pay C (hrz C i c k)) ∧ ¬ btz (k : Int) i ∧ q_gets C i (k : Int) c
    · rw [if_pos y, if_pos ⟨y.1, y.2.1, h.mpr y.2.2⟩]
    · rw [if_neg y, if_neg (fun x => y ⟨x.1, x.2.1, h.mp x.2.2⟩)]
theorem k_hire (hs : agr C s) (i c w : Int) : q_hire (K3 C s z) i c w = q_hire C i c w := by
  unfold q_hire
  by_cases q : q_one C i ∧ q_cell c ∧ 0 ≤ w ∧ w ≤ 1
  · rw [if_pos q, if_pos (show q_one (K3 C s z) i ∧ q_cell c ∧ 0 ≤ w ∧ w ≤ 1 from q), hrz_k (in_k hs q.1), pay_k]
    try rfl
  · rw [if_neg q]
    exact if_neg (fun y => q y)
theorem swz_k (i c : Int) : swz (K3 C s z) i c = swz C i c := rfl
theorem siw_k (i : Int) : ∀ k, siw (K3 C s z) i k = siw C i k
  | 0 => rfl
  | k + 1 => by simp only [siw, siw_k i k, swz_k]
theorem sic_k (i : Int) : ∀ k, sic (K3 C s z) i k = sic C i k
  | 0 => rfl
  | k + 1 => by simp only [sic, sic_k i k, siw_k, swz_k]
theorem k_sit (i w : Int) : q_sit (K3 C s z) i w = q_sit C i w := by
  unfold q_sit
  rw [sic_k, siw_k]
  try rfl
theorem apz_k (i j : Int) : apz (K3 C s z) i j = apz C i j := rfl
theorem apn_k (i : Int) : ∀ k, apn (K3 C s z) i k = apn C i k
  | 0 => rfl
  | k + 1 => by
    unfold apn
    rw [apn_k i k, apz_k, allW_k]
theorem apr_k (i p0 : Int) : ∀ k, apr (K3 C s z) i p0 k = apr C i p0 k
  | 0 => rfl
  | k + 1 => by
    unfold apr
    rw [apr_k i p0 k, apz_k, allW_k]
theorem apN_k : ∀ m, apN (K3 C s z) m = apN C m
  | 0 => rfl
  | m + 1 => by
    unfold apN
    rw [apN_k m, apn_k]
    try rfl
theorem apR_k : ∀ m, apR (K3 C s z) m = apR C m
  | 0 => rfl
  | m + 1 => by
    unfold apR
    rw [apR_k m, apr_k]
    try rfl
theorem k_apart (w : Int) : q_apart (K3 C s z) w = q_apart C w := by
  unfold q_apart
  rw [apN_k, apR_k]
  try rfl
theorem awy_k (al : Int) : awy (K3 C s z) al = K3 (awy C al) s z := rfl
theorem kpz_k : ∀ k, kpz (K3 C s z) k = kpz C k
  | 0 => rfl
  | k + 1 => by
    unfold kpz
    rw [kpz_k k, awy_k, allW_k]
    try rfl
theorem gz_k (i c : Int) : gz (K3 C s z) i c = gz C i c := rfl
theorem evb_k (i b0 : Int) : ∀ k, evb (K3 C s z) i b0 k = evb C i b0 k
  | 0 => rfl
  | k + 1 => by
    unfold evb
    rw [evb_k i b0 k, gz_k]
theorem evi_k (i b0 i0 : Int) : ∀ k, evi (K3 C s z) i b0 i0 k = evi C i b0 i0 k
  | 0 => rfl
  | k + 1 => by
    unfold evi
    rw [evi_k i b0 i0 k, gz_k, evb_k]
theorem evB_k : ∀ m, evB (K3 C s z) m = evB C m
  | 0 => rfl
  | m + 1 => by
    unfold evB
    rw [evB_k m, evb_k]
theorem evI_k : ∀ m, evI (K3 C s z) m = evI C m
  | 0 => rfl
  | m + 1 => by
    unfold evI
    rw [evI_k m, evi_k, evB_k]
theorem k_even : q_even (K3 C s z) = q_even C := by
  unfold q_even
  rw [evI_k]
  try rfl
theorem rfz_k {i : Int} (e : s i = Ct.sr C i) : rfz (K3 C s z) i = rfz C i := by
  unfold rfz
  rw [rc_k e, po_k]
theorem rfb_k (hs : agr C s) : ∀ k : Nat, (k : Int) ≤ Ct.n C → rfb (K3 C s z) k = rfb C k
  | 0, _ => rfl
  | k + 1, hk => by
    unfold rfb
    rw [rfb_k hs k (by omega), rfz_k (hs k (by omega) (by omega))]
theorem rfi_k (hs : agr C s) : ∀ k : Nat, (k : Int) ≤ Ct.n C → rfi (K3 C s z) k = rfi C k
  | 0, _ => rfl
  | k + 1, hk => by
    unfold rfi
    rw [rfi_k hs k (by omega), rfb_k hs k (by omega), rfz_k (hs k (by omega) (by omega))]
theorem k_order (hn : 0 ≤ Ct.n C) (hs : agr C s) (w : Int) : q_order (K3 C s z) w = q_order C w := by
  show (if 0 ≤ w ∧ w ≤ 1 then (if w = 0 then rfi (K3 C s z) (Ct.n C).toNat else rfb (K3 C s z) (Ct.n C).toNat) else -1) = _
  rw [rfi_k hs _ (by omega), rfb_k hs _ (by omega)]
  rfl
theorem rok_k (hn : 0 ≤ Ct.n C) (hs : agr C s) (so i : Int) (f : Int → Int) : ∀ k, rok (K3 C s z) so i f k = rok C so i f k
  | 0 => rfl
  | k + 1 => by
    unfold rok
    rw [rok_k hn hs so i f k, days_k hn hs, po_k, g_k]
theorem nat_k (i k f a : Int) : Ct.nat (K3 C s z) i k f a = K3 (Ct.nat C i k f a) (upz s i (srF k f)) z := rfl
theorem agr_nat (hs : agr C s) (i k f a : Int) : agr (Ct.nat C i k f a) (upz s i (srF k f)) := by
  intro j h0 h1
  show upz s i (srF k f) j = upz (Ct.sr C) i (srF k f) j
  by_cases q : j = i
  · rw [q, upz_s, upz_s]
  · rw [upz_n q, upz_n q]
    exact hs j h0 h1
theorem agis_k (hn : 0 ≤ Ct.n C) (hs : agr C s) (so i : Int) (v : Int → Int) (m k : Nat) : agis (K3 C s z) so i v m k = agis C so i v m k := rok_k (C := Ct.nat C i (Ct.kd C i) (Ct.fg C i) (k : Int)) hn (agr_nat hs _ _ _ _) so i v m
theorem agn_k (hn : 0 ≤ Ct.n C) (hs : agr C s) (so i : Int) (v : Int → Int) (m : Nat) : ∀ k, agn (K3 C s z) so i v m k = agn C so i v m k
  | 0 => rfl
  | k + 1 => by
    unfold agn
    rw [agn_k hn hs so i v m k, agis_k hn hs]
theorem agl_k (hn : 0 ≤ Ct.n C) (hs : agr C s) (so i : Int) (v : Int → Int) (m : Nat) : ∀ k, agl (K3 C s z) so i v m k = agl C so i v m k
  | 0 => rfl
  | k + 1 => by
    unfold agl
    rw [agl_k hn hs so i v m k, agis_k hn hs]
theorem agg_k (hn : 0 ≤ Ct.n C) (hs : agr C s) (so i : Int) (v : Int → Int) (m : Nat) : ∀ k, agg (K3 C s z) so i v m k = agg C so i v m k
  | 0 => rfl
  | k + 1 => by
    unfold agg
    rw [agg_k hn hs so i v m k, agis_k hn hs]
theorem k_ages (hn : 0 ≤ Ct.n C) (hs : agr C s) (d hd so sz : Int) (v : Int → Int) (i w : Int) : q_ages d hd so sz v (K3 C s z) i w = q_ages d hd so sz v C i w := by
  unfold q_ages
  rw [agn_k hn hs, agl_k hn hs, agg_k hn hs]
  try rfl
theorem whis_k (hn : 0 ≤ Ct.n C) (hs : agr C s) (so i : Int) (v : Int → Int) (m : Nat) (w t : Int) : whis (K3 C s z) so i v m w t = whis C so i v m w t := rok_k (C := Ct.nat C i (if w = 0 then t else Ct.kd C i) (if w = 1 then t else Ct.fg C i) (Ct.ag C i)) hn (agr_nat hs _ _ _ _) so i v m
theorem bitz_c {p q : Int → Prop} [DecidablePred p] [DecidablePred q] (h : ∀ i, p i ↔ q i) : ∀ k, bitz p k = bitz q k
  | 0 => rfl
  | k + 1 => by
    simp only [bitz]
    rw [bitz_c h k]
    by_cases y : q (k : Int)
    · rw [if_pos y, if_pos ((h _).mpr y)]
    · rw [if_neg y, if_neg (fun x => y ((h _).mp x))]
theorem k_whatIs (hn : 0 ≤ Ct.n C) (hs : agr C s) (d hd so sz : Int) (v : Int → Int) (i w : Int) : q_whatIs d hd so sz v (K3 C s z) i w = q_whatIs d hd so sz v C i w := by
  unfold q_whatIs
  rw [bitz_c (q := fun t => whis C so i v sz.toNat w t ≠ 0) (fun t => by rw [whis_k hn hs])]
  try rfl
theorem fgs_k (hn : 0 ≤ Ct.n C) (hs : agr C s) (i c t : Int) (n : Nat) : ∀ m, fgs (K3 C s z) i c t n m = fgs C i c t n m
  | 0 => rfl
  | m + 1 => by
    unfold fgs
    rw [fgs_k hn hs i c t n m, days_k hn hs, po_k]
theorem k_fog (hn : 0 ≤ Ct.n C) (hs : agr C s) (i c n t w : Int) : q_fog (K3 C s z) i c n t w = q_fog C i c n t w := by
  unfold q_fog
  rw [fgs_k hn hs]
  try rfl
theorem k_jd (hn : 0 ≤ Ct.n C) (hs : agr C s) (so : Int) (v : Int → Int) : q_jd (K3 C s z) so v = q_jd C so v := by
  funext t
  unfold q_jd
  rw [days_k hn hs, allW_k]
theorem drC_k (x : Int) : drC (K3 C s z) x = K3 (drC C x) s z := rfl
theorem sumz_c {f g : Int → Int} (h : ∀ i, f i = g i) (k : Nat) : sumz f k = sumz g k := by rw [funext h]
theorem ctv_k (hn : 0 ≤ Ct.n C) (hs : agr C s) (x w : Int) : ctv (K3 C s z) x w = ctv C x w := by
  unfold ctv
  rw [drC_k, days_k (C := drC C x) hn hs, allW_k, po_k]
  try rfl
theorem cts_k (x : Int) : ∀ k, cts (K3 C s z) x k = cts C x k
  | 0 => rfl
  | k + 1 => by
    unfold cts
    rw [cts_k x k]
    try rfl
theorem ctz_k (hn : 0 ≤ Ct.n C) (hs : agr C s) (x w : Int) : ∀ k, ctz (K3 C s z) x w k = ctz C x w k
  | 0 => rfl
  | k + 1 => by
    unfold ctz
    rw [ctz_k hn hs x w k, cts_k, ctv_k hn hs]
theorem k_countries (hn : 0 ≤ Ct.n C) (hs : agr C s) (n x w : Int) : q_countries (K3 C s z) n x w = q_countries C n x w := by
  unfold q_countries
  rw [ctz_k hn hs]
end HQS
/-! ## one and the same country, but for what nobody reads -/
def Rl (C D : Ct) : Prop := ∃ s z, D = K3 C s z ∧ agr C s
def Co (N : Ct) : Prop := Rl N (LcO N)
theorem Co.of {N D : Ct} (h : Rl N D) (hD : LcO D = D) : Co N := by
  obtain ⟨s, z, rfl, hs⟩ := h
  exact ⟨s, z, hD, hs⟩
theorem Co.wa {N : Ct} (h : Co N) (x : Int → Int) : Co (Ct.set_wa N x) := by
  obtain ⟨s, z, e, hs⟩ := h
  exact ⟨s, z, e, hs⟩
theorem LcO_i (C : Ct) : LcO (LcO C) = LcO C := rfl
theorem Co.po {N : Ct} (h : Co N) (p : Int → Int) : Co (Ct.set_po N p) := by
  obtain ⟨s, z, e, hs⟩ := h
  refine Co.of (D := Ct.set_po (LcO N) p) ⟨s, z, ?_, hs⟩ rfl
  rw [e]; rfl
theorem Co.wy {N : Ct} (h : Co N) (p : Int → Int) : Co (Ct.set_wy N p) := by
  obtain ⟨s, z, e, hs⟩ := h
  refine Co.of (D := Ct.set_wy (LcO N) p) ⟨s, z, ?_, hs⟩ rfl
  rw [e]; rfl
theorem Co.h {N : Ct} (h : Co N) (p : Int → Int) : Co (Ct.set_h N p) := by
  obtain ⟨s, z, e, hs⟩ := h
  refine Co.of (D := Ct.set_h (LcO N) p) ⟨s, z, ?_, hs⟩ rfl
  rw [e]; rfl
theorem Co.days {N : Ct} (h : Co N) (hn : 0 ≤ Ct.n N) (k : Nat) : Co (Ct.days N k) := by
  obtain ⟨s, z, e, hs⟩ := h
  refine Co.of (D := Ct.days (LcO N) k) ⟨s, z, ?_, agr_days hs k⟩ (days_O (LcO_i N) k)
  rw [e, days_k hn hs]
theorem come_k {C : Ct} {s z : Int → Int} (k f g c : Int) : Ct.come (K3 C s z) k f g c = K3 (Ct.come C k f g c) (upz s (Ct.n C) (srF k f)) z := rfl
theorem agr_come {C : Ct} {s : Int → Int} (hs : agr C s) (k f g c : Int) : agr (Ct.come C k f g c) (upz s (Ct.n C) (srF k f)) := by
  intro j h0 h1
  have h1 : j < Ct.n C + 1 := h1
  show upz s (Ct.n C) (srF k f) j = upz (Ct.sr C) (Ct.n C) (srF k f) j
  by_cases q : j = Ct.n C
  · rw [q, upz_s, upz_s]
  · rw [upz_n q, upz_n q]
    exact hs j h0 (by omega)
theorem Co.come {N : Ct} (h : Co N) (k f g c : Int) : Co (Ct.come N k f g c) := by
  obtain ⟨s, z, e, hs⟩ := h
  refine Co.of (D := Ct.come (LcO N) k f g c) ⟨_, z, ?_, agr_come hs k f g c⟩ (come_O (LcO_i N) k f g c)
  rw [e]
  exact come_k k f g c
/-! ## texts -/
theorem snc_x {c : Int} (h : ¬ ltr c) (x y e f : Int) (C : Ct) : snc c x y e f C = snc 100 x y e f C ∧ sck c x y e f C = sck 100 x y e f C := by
  unfold snc sck
  rw [if_neg (show ¬ c = 103 from fun q => h (by omega)), if_neg (show ¬ c = 119 from fun q => h (by omega)), if_neg (show ¬ c = 109 from fun q => h (by omega)), if_neg (show ¬ c = 121 from fun q => h (by omega)), if_neg (show ¬ c = 103 from fun q => h (by omega)), if_neg (show ¬ c = 119 from fun q => h (by omega)), if_neg (show ¬ c = 109 from fun q => h (by omega)), if_neg (show ¬ c = 121 from fun q => h (by omega))]
  exact ⟨rfl, rfl⟩
theorem sck_k {C : Ct} {s z : Int → Int} (c x y e f : Int) : sck c x y e f (K3 C s z) = sck c x y e f C := rfl
theorem snc_k {C D : Ct} (h : Rl C D) (hn : 0 ≤ Ct.n C) (c x y e f : Int) : Rl (snc c x y e f C) (snc c x y e f D) := by
  obtain ⟨s, z, rfl, hs⟩ := h
  unfold snc
  split
  · exact ⟨s, z, rfl, hs⟩
  · split
    · exact ⟨_, z, come_k x y e f, agr_come hs x y e f⟩
    · split
      · exact ⟨s, z, rfl, hs⟩
      · split
        · exact ⟨s, z, rfl, hs⟩
        · exact ⟨s, z, days_k hn hs _, agr_days hs _⟩
theorem snc_n (c x y e f : Int) (C : Ct) : Ct.n C ≤ Ct.n (snc c x y e f C) := by
  unfold snc
  split
  · exact Int.le_refl _
  · split
    · show Ct.n C ≤ Ct.n C + 1
      omega
    · split
      · exact Int.le_refl _
      · split
        · exact Int.le_refl _
        · rw [(Ct.days_eq C x.toNat).2.1]
          exact Int.le_refl _
theorem run_k (u : Int → Int) (sz : Int) : ∀ (k : Nat) (p s : Int) (C D : Ct), Rl C D → 0 ≤ Ct.n C → (runS u sz k p s D).1 = (runS u sz k p s C).1 ∧ Rl (runS u sz k p s C).2 (runS u sz k p s D).2
  | 0, p, s, C, D, h, _ => ⟨rfl, h⟩
  | k + 1, p, s, C, D, h, hn => by
    have e : sok u p D = sok u p C := by
      obtain ⟨s, z, rfl, -⟩ := h
      rfl
    unfold runS
    rw [e]
    split
    · split
      · exact run_k u sz k _ _ _ _ (snc_k h hn _ _ _ _ _) (Int.le_trans hn (snc_n _ _ _ _ _ C))
      · exact ⟨rfl, h⟩
    · exact ⟨rfl, h⟩
theorem run_O (u : Int → Int) (sz : Int) : ∀ (k : Nat) (p s : Int) (C : Ct), LcO C = C → LcO (runS u sz k p s C).2 = (runS u sz k p s C).2
  | 0, p, s, C, h => h
  | k + 1, p, s, C, h => by
    unfold runS
    split
    · split
      · refine run_O u sz k _ _ _ ?_
        by_cases q : ltr (u p)
        · exact snc_O h q _ _ _ _
        · unfold snx
          rw [(snc_x q _ _ _ _ _).1]
          exact snc_O h (Or.inr (Or.inr (Or.inr (Or.inr rfl)))) _ _ _ _
      · exact h
    · exact h
theorem run_wf (u : Int → Int) (sz : Int) : ∀ (k : Nat) (p s : Int) (C : Ct), WFc C → 0 ≤ Ct.dy C ∧ Ct.dy C ≤ 999 → WFc (runS u sz k p s C).2 ∧ 0 ≤ Ct.dy (runS u sz k p s C).2 ∧ Ct.dy (runS u sz k p s C).2 ≤ 999
  | 0, p, s, C, h, hd => ⟨h, hd⟩
  | k + 1, p, s, C, h, hd => by
    unfold runS
    split
    · split
      · rename_i hq
        have hw : WFc (snx u p C) ∧ 0 ≤ Ct.dy (snx u p C) ∧ Ct.dy (snx u p C) ≤ 999 := by
          by_cases q : ltr (u p)
          · exact snc_wf h hd q hq
          · unfold snx
            unfold sok at hq
            rw [(snc_x q _ _ _ _ _).2] at hq
            rw [(snc_x q _ _ _ _ _).1]
            exact snc_wf h hd (Or.inr (Or.inr (Or.inr (Or.inr rfl)))) hq
        exact run_wf u sz k _ _ _ hw.1 hw.2
      · exact ⟨h, hd⟩
    · exact ⟨h, hd⟩
theorem Co.run {N : Ct} (h : Co N) (hn : 0 ≤ Ct.n N) (u : Int → Int) (sz : Int) (k : Nat) (p s : Int) : Co (runS u sz k p s N).2 := Co.of (run_k u sz k p s N (LcO N) h hn).2 (run_O u sz k p s _ (LcO_i N))
theorem k_country {N D : Ct} (h : Rl N D) (hn : 0 ≤ Ct.n N) (d hd so sz : Int) (u : Int → Int) : q_country d hd so sz u D = q_country d hd so sz u N := by
  unfold q_country
  rw [(run_k u sz 100 0 0 N D h hn).1]
end HCOH
