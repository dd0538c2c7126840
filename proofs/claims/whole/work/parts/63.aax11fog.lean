section HXIaa
/-- sums of the first so many -/
def sN (g : Nat → Int) : Nat → Int
  | 0 => 0
  | k + 1 => sN g k + g k
theorem sN_congr {g h : Nat → Int} : ∀ m, (∀ k, k < m → g k = h k) → sN g m = sN h m
  | 0, _ => rfl
  | m + 1, e => by
    simp only [sN]
    rw [sN_congr m (fun k hk => e k (by omega)), e m (by omega)]
theorem sN_add (g : Nat → Int) (a : Nat) : ∀ b, sN g (a + b) = sN g a + sN (fun m => g (a + m)) b
  | 0 => by simp [sN]
  | b + 1 => by
    show sN g (a + b) + g (a + b) = sN g a + (sN (fun m => g (a + m)) b + g (a + b))
    rw [sN_add g a b]
    omega
/-- binomials -/
def bn : Nat → Nat → Int
  | _, 0 => 1
  | 0, _ + 1 => 0
  | n + 1, k + 1 => bn n (k + 1) + bn n k
theorem bn_0 (n : Nat) : bn n 0 = 1 := by cases n <;> rfl
theorem bn_big : ∀ n k : Nat, n < k → bn n k = 0
  | 0, k + 1, _ => rfl
  | n + 1, k + 1, h => by
    simp only [bn]
    rw [bn_big n (k + 1) (by omega), bn_big n k (by omega)]
    rfl
theorem bn_step : ∀ n : Nat, n < 8 → ∀ k : Nat, k < 8 → k ≤ n → bn n k * ((n : Int) - (k : Int)) = bn n (k + 1) * ((k : Int) + 1) := by decide +kernel
theorem bn_b : ∀ n : Nat, n < 8 → ∀ k : Nat, k < 9 → 0 ≤ bn n k ∧ bn n k ≤ 35 := by decide +kernel
/-- sums over all who may be in fog, by how many are not -/
theorem S_step (f : Nat → Int) (n : Nat) : sN (fun m => f (clz (m : Int) (n + 1))) (2 ^ (n + 1)) = sN (fun m => f (clz (m : Int) n + 1)) (2 ^ n) + sN (fun m => f (clz (m : Int) n)) (2 ^ n) := by
  have e : 2 ^ (n + 1) = 2 ^ n + 2 ^ n := by rw [Nat.pow_succ]; omega
  rw [e, sN_add]
  have h1 : ∀ m, m < 2 ^ n → (fun m : Nat => f (clz (m : Int) (n + 1))) m = (fun m : Nat => f (clz (m : Int) n + 1)) m := fun m hm => by
    have hb : ¬ btz (m : Int) (n : Int) := fun z => by
      have := (btz_nat m (n : Int)).mp z
      rw [Int.toNat_natCast, Nat.div_eq_of_lt hm] at this
      omega
    show f (clz (m : Int) (n + 1)) = f (clz (m : Int) n + 1)
    simp only [clz]
    rw [if_neg hb]
  have hlow : ∀ (j m : Nat), j ≤ n → clz ((2 ^ n + m : Nat) : Int) j = clz (m : Int) j := by
    intro j
    induction j with
    | zero => intro m _; rfl
    | succ j ih =>
      intro m hj
      have hi : btz ((2 ^ n + m : Nat) : Int) (j : Int) ↔ btz (m : Int) (j : Int) := by
        rw [btz_nat, btz_nat, Int.toNat_natCast]
        have hp : 0 < 2 ^ j := Nat.pow_pos (by decide)
        have e2 : 2 ^ n = 2 ^ j * (2 * 2 ^ (n - j - 1)) := by
          rw [← Nat.pow_succ', ← Nat.pow_add]
          congr 1
          omega
        rw [e2, Nat.add_comm, Nat.add_mul_div_left _ _ hp, Nat.add_mul_mod_self_left]
      simp only [clz]
      rw [ih m (by omega)]
      by_cases q : btz (m : Int) (j : Int)
      · rw [if_pos (hi.mpr q), if_pos q]
      · rw [if_neg (fun z => q (hi.mp z)), if_neg q]
  have h2 : ∀ m, m < 2 ^ n → (fun m : Nat => (fun m : Nat => f (clz (m : Int) (n + 1))) (2 ^ n + m)) m = (fun m : Nat => f (clz (m : Int) n)) m := fun m hm => by
    have hb : btz ((2 ^ n + m : Nat) : Int) (n : Int) := by
      refine (btz_nat (2 ^ n + m) (n : Int)).mpr ?_
      have hp : 0 < 2 ^ n := Nat.pow_pos (by decide)
      rw [Int.toNat_natCast, Nat.add_div_left _ hp, Nat.div_eq_of_lt hm]
    show f (clz ((2 ^ n + m : Nat) : Int) (n + 1)) = f (clz (m : Int) n)
    rw [← hlow n m (Nat.le_refl n)]
    simp only [clz]
    rw [if_pos hb]
  rw [sN_congr _ h1, sN_congr _ h2]
theorem T_step (f : Nat → Int) (n : Nat) : ∀ m : Nat, sN (fun k => bn (n + 1) k * f k) (m + 1) = sN (fun k => bn n k * f k) (m + 1) + sN (fun k => bn n k * f (k + 1)) m
  | 0 => by
    simp only [sN]
    rw [bn_0, bn_0]
    omega
  | m + 1 => by
    have ih := T_step f n m
    show sN (fun k => bn (n + 1) k * f k) (m + 1) + bn (n + 1) (m + 1) * f (m + 1) = (sN (fun k => bn n k * f k) (m + 1) + bn n (m + 1) * f (m + 1)) + (sN (fun k => bn n k * f (k + 1)) m + bn n m * f (m + 1))
    rw [ih]
    simp only [bn]
    rw [Int.add_mul]
    omega
theorem S_T : ∀ (n : Nat) (f : Nat → Int), sN (fun m => f (clz (m : Int) n)) (2 ^ n) = sN (fun k => bn n k * f k) (n + 1)
  | 0, f => by
    show 0 + f 0 = 0 + bn 0 0 * f 0
    rw [bn_0, Int.one_mul]
  | n + 1, f => by
    rw [S_step f n, S_T n f, S_T n (fun k => f (k + 1)), T_step f n (n + 1)]
    have e : sN (fun k => bn n k * f k) (n + 1 + 1) = sN (fun k => bn n k * f k) (n + 1) := by
      show sN (fun k => bn n k * f k) (n + 1) + bn n (n + 1) * f (n + 1) = _
      rw [bn_big n (n + 1) (by omega), Int.zero_mul, Int.add_zero]
    rw [e]
    omega
theorem fgs_sN (C : Ct) (i c t : Int) (n : Nat) : ∀ M, fgs C i c t n M = sN (fun m => (fun q => if Ct.po (Ct.days C q) i = c then (t - 1) ^ q else 0) (clz (m : Int) n)) M
  | 0 => rfl
  | M + 1 => by
    show fgs C i c t n M + _ = sN _ M + _
    rw [fgs_sN C i c t n M]
/-- odds of so many clear days, as the class has them -/
def odz (n : Nat) (t : Int) (k : Nat) : Int := bn n k * (t - 1) ^ k
theorem odz_s {n : Nat} {t : Int} {k : Nat} (hn : n < 8) (hk : k ≤ n) : odz n t k * ((n : Int) - (k : Int)) / ((k : Int) + 1) * (t - 1) = odz n t (k + 1) := by
  unfold odz
  have e : bn n k * (t - 1) ^ k * ((n : Int) - (k : Int)) = bn n (k + 1) * (t - 1) ^ k * ((k : Int) + 1) := by
    have h := bn_step n hn k (by omega) hk
    rw [Int.mul_right_comm, h, Int.mul_right_comm]
  rw [e, Int.mul_ediv_cancel _ (by omega), Int.pow_succ, Int.mul_assoc]
theorem odz_b {n : Nat} {t : Int} {k : Nat} (hn : n < 8) (hk : k ≤ n + 1) (ht : 2 ≤ t ∧ t ≤ 20) : 0 ≤ odz n t k ∧ odz n t k ≤ 44800000000 := by
  by_cases q : k ≤ 7
  · have h1 := bn_b n hn k (by omega)
    have h2 := pow_b (t := t - 1) (by omega) (k := k) q
    unfold odz
    refine ⟨Int.mul_nonneg h1.1 h2.1, ?_⟩
    have := Int.mul_le_mul h1.2 h2.2 h2.1 (by decide)
    omega
  · have e : odz n t k = 0 := by
      unfold odz
      rw [bn_big n k (by omega), Int.zero_mul]
    omega
def fgc (C : Ct) (i c t : Int) (n : Nat) : Nat → Int
  | 0 => 0
  | k + 1 => fgc C i c t n k + (if Ct.po (Ct.days C k) i = c then odz n t k else 0)
theorem fgc_b {C : Ct} {i c t : Int} {n : Nat} (hn : n < 8) (ht : 2 ≤ t ∧ t ≤ 20) : ∀ k, k ≤ n + 1 → 0 ≤ fgc C i c t n k ∧ fgc C i c t n k ≤ 44800000000 * (k : Int)
  | 0, _ => by simp [fgc]
  | k + 1, h => by
    have h1 := fgc_b (C := C) (i := i) (c := c) hn ht k (by omega)
    have h2 := odz_b (t := t) (k := k) hn (by omega) ht
    simp only [fgc]
    split <;> omega
theorem fgc_fgs (C : Ct) (i c t : Int) (n : Nat) : fgc C i c t n (n + 1) = fgs C i c t n (2 ^ n) := by
  rw [fgs_sN, S_T n (fun q => if Ct.po (Ct.days C q) i = c then (t - 1) ^ q else 0)]
  have e : ∀ k, fgc C i c t n k = sN (fun k => bn n k * (if Ct.po (Ct.days C k) i = c then (t - 1) ^ k else 0)) k := by
    intro k
    induction k with
    | zero => rfl
    | succ k ih =>
      simp only [fgc, sN]
      rw [ih]
      unfold odz
      split
      · rfl
      · rw [Int.mul_zero]
  exact e (n + 1)
theorem in_X11_fog_X1 : ∀ w ∈ u_ws RX1 TX1 13, w ∈ wsX11_fog := by decide +kernel
theorem in_X11_fog_X11 : ∀ w ∈ u_ws RX11 TX11 6, w ∈ wsX11_fog := by decide +kernel
theorem ok_X11_fog : okY yX11_fog 5 := by decide +kernel
def rmX11_fog : Room := { frames := 4, cells := 0, slots := 0, locals := 87 }
set_option maxRecDepth 100000 in
set_option maxHeartbeats 400000 in
theorem c_X11_fog (l : Launch) (γ : GX) (b : Nat → Nat) (F : Nat → Sh) (N M P : Ct) (hp sd : Int) (hN : WFc N) (hF : ∀ t : Nat, t < 8 → WFs (F t)) (i : Int) (c : Int) (n : Int) (t : Int) (w : Int) (h0_ : -2147483648 ≤ i ∧ i < 2147483648) (h1_ : -2147483648 ≤ c ∧ c < 2147483648) (h2_ : -2147483648 ≤ n ∧ n < 2147483648) (h3_ : -2147483648 ≤ t ∧ t < 2147483648) (h4_ : -2147483648 ≤ w ∧ w < 2147483648) : MJ l γ yX11_fog wsX11_fog rmX11_fog [.ref (b 0), .int (iN (i)), .int (iN (c)), .int (iN (n)), .int (iN (t)), .int (iN (w))] (WX γ b F N M P hp sd) (fun r_ w_ => r_ = q_fog N i c n t w ∧ Wc γ b F N P hp w_) 0 0 := by
  refine MJ.of (cc := cX11_fog) (maxL := 14) RX11 rfl (by decide +kernel) rfl (Nat.le_of_ble_eq_true rfl) ?_
  intro X C hγ hl hnm hret
  subst hγ
  have hNn := WFc.n hN
  show Wx X 0 0 (WX X.γ b F N M P hp sd) 0 [(0, .ref (b 0)), (1, .int (iN (i))), (2, .int (iN (c))), (3, .int (iN (n))), (4, .int (iN (t))), (5, .int (iN (w)))] []
  refine x_aload_n C 0 rfl rfl dX11_fog_0 ?_
  refine x_get C in_X11_fog_X11 0 rfl rfl 1 (by decide) (List.mem_of_getElem? (i := 1) rfl) rfl (v := .ref (b 27)) rfl dX11_fog_1 ?_
  refine x_iload_n C 1 rfl rfl dX11_fog_4 ?_
  refine x_V_I C (As := [.int (iN (i))]) (rest := []) 1 27 rfl rfl gX11_fog_X1_has rfl (MI.fN b F N M P hp sd (fun r Z => r = (bz (0 ≤ i ∧ i ≤ Ct.n N - 1)) ∧ N = Z) (c_X1_has _ _ (adN b) N hN (i) (by omega)) (fun r w h => ⟨_, ⟨h.1, rfl⟩, h.2⟩)) rfl ok_X1_has rfl rfl rfl rfl dX11_fog_5 (fun r w1 hp => ?_)
  obtain ⟨_, ⟨rfl, rfl⟩, rfl⟩ := hp
  show Wx X 0 0 (WX X.γ b F N M P hp sd) 8 [(0, .ref (b 0)), (1, .int (iN (i))), (2, .int (iN (c))), (3, .int (iN (n))), (4, .int (iN (t))), (5, .int (iN (w)))] [.int (iN (bz (0 ≤ i ∧ i ≤ Ct.n N - 1)))]
  have LP23 : ∀ (s0_23 : Int), (s0_23 = (if (0 ≤ i ∧ i ≤ Ct.n N - 1) ∧ 0 ≤ c ∧ c ≤ 14 then 1 else 0)) → Wx X 0 0 (WX X.γ b F N M P hp sd) 23 [(0, .ref (b 0)), (1, .int (iN (i))), (2, .int (iN (c))), (3, .int (iN (n))), (4, .int (iN (t))), (5, .int (iN (w)))] [.int (iN (s0_23))] := by
    intro s0_23 es0_23
    refine x_istore C [(6, .int (iN (s0_23))), (0, .ref (b 0)), (1, .int (iN (i))), (2, .int (iN (c))), (3, .int (iN (n))), (4, .int (iN (t))), (5, .int (iN (w)))] (by decide) rfl dX11_fog_23 ?_
    refine x_iload C 0 rfl dX11_fog_25 ?_
    refine x_if_eq C 61 (by decide) (by omega) dX11_fog_27 (fun c_27 => ?_) (fun c_27 => ?_)
    · refine x_ldc2 C (1000000001) (List.mem_of_getElem? (i := 2) rfl) (by decide) dX11_fog_61 ?_
      exact hret _ _ _ _ dX11_fog_64 ⟨(by unfold q_fog; rw [if_neg (show ¬ ((q_one N i ∧ q_cell c) ∧ (0 ≤ n ∧ n ≤ 7) ∧ (2 ≤ t ∧ t ≤ 20) ∧ 0 ≤ w ∧ w ≤ 1) from (show ¬ (((0 ≤ i ∧ i ≤ Ct.n N - 1) ∧ 0 ≤ c ∧ c ≤ 14) ∧ (0 ≤ n ∧ n ≤ 7) ∧ (2 ≤ t ∧ t ≤ 20) ∧ 0 ≤ w ∧ w ≤ 1) by omega))]), ⟨(Ct.wa N), (Ct.wa P), _, _, rfl⟩⟩
    · refine x_iload_n C 4 rfl rfl dX11_fog_30 ?_
      refine x_iconst (v := 0) C dX11_fog_31 ?_
      refine x_bipush C (7) (by decide) dX11_fog_32 ?_
      refine x_S_I C (As := [.int (iN (n)), .int (iN (0)), .int (iN (7))]) (rest := []) 3 gX11_fog_X11_isWithin (c_X11_isWithin _ _ (WX X.γ b F N M P hp sd) (n) (0) (7) (by omega) (by omega) (by omega)) rfl ok_X11_isWithin rfl rfl rfl rfl dX11_fog_34 (fun r w1 hp => ?_)
      obtain ⟨rfl, rfl⟩ := hp
      refine x_ifeq_bz C 61 (by decide) dX11_fog_37 (fun c_37 => ?_) (fun c_37 => ?_)
      · refine x_ldc2 C (1000000001) (List.mem_of_getElem? (i := 2) rfl) (by decide) dX11_fog_61 ?_
        exact hret _ _ _ _ dX11_fog_64 ⟨(by unfold q_fog; rw [if_neg (show ¬ ((q_one N i ∧ q_cell c) ∧ (0 ≤ n ∧ n ≤ 7) ∧ (2 ≤ t ∧ t ≤ 20) ∧ 0 ≤ w ∧ w ≤ 1) from (show ¬ (((0 ≤ i ∧ i ≤ Ct.n N - 1) ∧ 0 ≤ c ∧ c ≤ 14) ∧ (0 ≤ n ∧ n ≤ 7) ∧ (2 ≤ t ∧ t ≤ 20) ∧ 0 ≤ w ∧ w ≤ 1) by omega))]), ⟨(Ct.wa N), (Ct.wa P), _, _, rfl⟩⟩
      · refine x_iload C 5 rfl dX11_fog_40 ?_
        refine x_iconst (v := 0) C dX11_fog_42 ?_
        refine x_bipush C (20) (by decide) dX11_fog_43 ?_
        refine x_S_I C (As := [.int (iN (t)), .int (iN (2)), .int (iN (20))]) (rest := []) 3 gX11_fog_X11_isWithin (c_X11_isWithin _ _ (WX X.γ b F N M P hp sd) (t) (2) (20) (by omega) (by omega) (by omega)) rfl ok_X11_isWithin rfl rfl rfl rfl dX11_fog_45 (fun r w1 hp => ?_)
        obtain ⟨rfl, rfl⟩ := hp
        refine x_ifeq_bz C 61 (by decide) dX11_fog_48 (fun c_48 => ?_) (fun c_48 => ?_)
        · refine x_ldc2 C (1000000001) (List.mem_of_getElem? (i := 2) rfl) (by decide) dX11_fog_61 ?_
          exact hret _ _ _ _ dX11_fog_64 ⟨(by unfold q_fog; rw [if_neg (show ¬ ((q_one N i ∧ q_cell c) ∧ (0 ≤ n ∧ n ≤ 7) ∧ (2 ≤ t ∧ t ≤ 20) ∧ 0 ≤ w ∧ w ≤ 1) from (show ¬ (((0 ≤ i ∧ i ≤ Ct.n N - 1) ∧ 0 ≤ c ∧ c ≤ 14) ∧ (0 ≤ n ∧ n ≤ 7) ∧ (2 ≤ t ∧ t ≤ 20) ∧ 0 ≤ w ∧ w ≤ 1) by omega))]), ⟨(Ct.wa N), (Ct.wa P), _, _, rfl⟩⟩
        · refine x_iload C 6 rfl dX11_fog_51 ?_
          refine x_iconst (v := 0) C dX11_fog_53 ?_
          refine x_iconst (v := 0) C dX11_fog_54 ?_
          refine x_S_I C (As := [.int (iN (w)), .int (iN (0)), .int (iN (1))]) (rest := []) 3 gX11_fog_X11_isWithin (c_X11_isWithin _ _ (WX X.γ b F N M P hp sd) (w) (0) (1) (by omega) (by omega) (by omega)) rfl ok_X11_isWithin rfl rfl rfl rfl dX11_fog_55 (fun r w1 hp => ?_)
          obtain ⟨rfl, rfl⟩ := hp
          refine x_ifne_bz C 65 (by decide) dX11_fog_58 (fun c_58 => ?_) (fun c_58 => ?_)
          · refine x_aload_n C 1 rfl rfl dX11_fog_65 ?_
            refine x_get C in_X11_fog_X11 0 rfl rfl 2 (by decide) (List.mem_of_getElem? (i := 3) rfl) rfl (v := .ref (b 38)) rfl dX11_fog_66 ?_
            refine x_aload_n C 1 rfl rfl dX11_fog_69 ?_
            refine x_get C in_X11_fog_X11 0 rfl rfl 1 (by decide) (List.mem_of_getElem? (i := 1) rfl) rfl (v := .ref (b 27)) rfl dX11_fog_70 ?_
            refine x_V_V C (As := [.ref (b 27)]) (rest := []) 1 38 rfl rfl gX11_fog_X1_become rfl (MV.bMN b F N M P hp sd (fun Z => Z = Ct.set_wa N (Ct.wa M)) (c_X1_become _ _ (adM b) (adN b) M N) (fun w h => ⟨_, rfl, h⟩)) rfl ok_X1_become rfl rfl rfl rfl dX11_fog_73 (fun w1 hp => ?_)
            obtain ⟨_, rfl, rfl⟩ := hp
            refine Wx.eqW (ws' := (WX X.γ b F N (Ct.set_wa N (Ct.wa M)) P hp sd)) rfl ?_
            refine x_lconst C 0 rfl dX11_fog_76 ?_
            refine x_lstore C [(7, .long (jN (0))), (6, .int (iN (s0_23))), (0, .ref (b 0)), (1, .int (iN (i))), (2, .int (iN (c))), (3, .int (iN (n))), (4, .int (iN (t))), (5, .int (iN (w)))] (by decide) rfl dX11_fog_77 ?_
            refine x_lconst C 1 rfl dX11_fog_79 ?_
            refine x_lstore C [(9, .long (jN (1))), (7, .long (jN (0))), (6, .int (iN (s0_23))), (0, .ref (b 0)), (1, .int (iN (i))), (2, .int (iN (c))), (3, .int (iN (n))), (4, .int (iN (t))), (5, .int (iN (w)))] (by decide) rfl dX11_fog_80 ?_
            refine x_lconst C 1 rfl dX11_fog_82 ?_
            refine x_lstore C [(11, .long (jN (1))), (9, .long (jN (1))), (7, .long (jN (0))), (6, .int (iN (s0_23))), (0, .ref (b 0)), (1, .int (iN (i))), (2, .int (iN (c))), (3, .int (iN (n))), (4, .int (iN (t))), (5, .int (iN (w)))] (by decide) rfl dX11_fog_83 ?_
            refine x_iconst (v := 0) C dX11_fog_85 ?_
            refine x_istore C [(13, .int (iN (0))), (11, .long (jN (1))), (9, .long (jN (1))), (7, .long (jN (0))), (6, .int (iN (s0_23))), (0, .ref (b 0)), (1, .int (iN (i))), (2, .int (iN (c))), (3, .int (iN (n))), (4, .int (iN (t))), (5, .int (iN (w)))] (by decide) rfl dX11_fog_86 ?_
            have LP88 : ∀ (f : Nat) (k : Nat) (WA : Int → Int) (v13_88 : Int) (v11_88 : Int) (v7_88 : Int), (n.toNat + 1 - k < f) → ((k : Int) ≤ n + 1) → (((k : Int)) = v13_88) → (v11_88 = (odz n.toNat t k)) → (v7_88 = (fgc N i c t n.toNat k)) → Wx X 0 0 (WX X.γ b F N (Ct.set_wa (Ct.days N k) (WA)) P hp sd) 88 [(13, .int (iN (v13_88))), (11, .long (jN (v11_88))), (9, .long (jN (1))), (7, .long (jN (v7_88))), (6, .int (iN (s0_23))), (0, .ref (b 0)), (1, .int (iN (i))), (2, .int (iN (c))), (3, .int (iN (n))), (4, .int (iN (t))), (5, .int (iN (w)))] [] := by
              intro f
              induction f with
              | zero => intro k WA v13_88 v11_88 v7_88 hf; exact absurd hf (Nat.not_lt_zero _)
              | succ f ih88 =>
                intro k WA v13_88 v11_88 v7_88 hf hk e13_88 e11_88 e7_88
                subst e13_88
                have bod := odz_b (n := n.toNat) (t := t) (k := k) (by omega) (by omega) (by omega)
                have bfg := fgc_b (C := N) (i := i) (c := c) (t := t) (n := n.toNat) (by omega) (by omega) k (by omega)
                refine x_iload C 0 rfl dX11_fog_88 ?_
                refine x_iload_n C 8 rfl rfl dX11_fog_90 ?_
                refine x_icmp_gt C 150 (by decide) (by omega) dX11_fog_91 (fun c_91 => ?_) (fun c_91 => ?_)
                · refine x_iconst (v := 0) C dX11_fog_150 ?_
                  refine x_istore C [(13, .int (iN (0))), (11, .long (jN (v11_88))), (9, .long (jN (1))), (7, .long (jN (v7_88))), (6, .int (iN (s0_23))), (0, .ref (b 0)), (1, .int (iN (i))), (2, .int (iN (c))), (3, .int (iN (n))), (4, .int (iN (t))), (5, .int (iN (w)))] (by decide) rfl dX11_fog_151 ?_
                  have LP153 : ∀ (f : Nat) (k2 : Nat) (v13_153 : Int) (v9_153 : Int), (n.toNat - k2 < f) → (k2 ≤ n.toNat) → (((k2 : Int)) = v13_153) → (v9_153 = (t ^ k2)) → Wx X 0 0 (WX X.γ b F N (Ct.set_wa (Ct.days N k) (WA)) P hp sd) 153 [(13, .int (iN (v13_153))), (11, .long (jN (v11_88))), (9, .long (jN (v9_153))), (7, .long (jN (v7_88))), (6, .int (iN (s0_23))), (0, .ref (b 0)), (1, .int (iN (i))), (2, .int (iN (c))), (3, .int (iN (n))), (4, .int (iN (t))), (5, .int (iN (w)))] [] := by
                    intro f
                    induction f with
                    | zero => intro k2 v13_153 v9_153 hf; exact absurd hf (Nat.not_lt_zero _)
                    | succ f ih153 =>
                      intro k2 v13_153 v9_153 hf hk2 e13_153 e9_153
                      subst e13_153
                      have bp9 := pow_b (t := t) (by omega) (k := k2) (by omega)
                      have bq9 : 0 < t ^ k2 := Int.pow_pos (by omega)
                      refine x_iload C 0 rfl dX11_fog_153 ?_
                      refine x_iload_n C 8 rfl rfl dX11_fog_155 ?_
                      refine x_icmp_ge C 173 (by decide) (by omega) dX11_fog_156 (fun c_156 => ?_) (fun c_156 => ?_)
                      · refine x_lload C 3 rfl dX11_fog_173 ?_
                        refine x_lload C 2 rfl dX11_fog_175 ?_
                        refine x_iload C 10 rfl dX11_fog_177 ?_
                        refine x_S_J C (As := [.long (jN (v7_88)), .long (jN (v9_153)), .int (iN (w))]) (rest := []) 3 gX11_fog_X11_inLeastTerms (c_X11_inLeastTerms _ _ (WX X.γ b F N (Ct.set_wa (Ct.days N k) (WA)) P hp sd) (v7_88) (v9_153) (w) (by omega) (by omega) (by omega)) rfl ok_X11_inLeastTerms rfl rfl rfl rfl dX11_fog_179 (fun r w1 hp => ?_)
                        obtain ⟨rfl, rfl⟩ := hp
                        show Wx X 0 0 (WX X.γ b F N (Ct.set_wa (Ct.days N k) (WA)) P hp sd) 182 [(13, .int (iN ((k2 : Int)))), (11, .long (jN (v11_88))), (9, .long (jN (v9_153))), (7, .long (jN (v7_88))), (6, .int (iN (s0_23))), (0, .ref (b 0)), (1, .int (iN (i))), (2, .int (iN (c))), (3, .int (iN (n))), (4, .int (iN (t))), (5, .int (iN (w)))] [.long (jN (q_part v7_88 v9_153 w))]
                        exact hret _ _ _ _ dX11_fog_182 ⟨(by have hz : k = n.toNat + 1 := (by omega); have hy : k2 = n.toNat := (by omega); unfold q_fog; rw [if_pos (show (q_one N i ∧ q_cell c) ∧ (0 ≤ n ∧ n ≤ 7) ∧ (2 ≤ t ∧ t ≤ 20) ∧ 0 ≤ w ∧ w ≤ 1 from (show ((0 ≤ i ∧ i ≤ Ct.n N - 1) ∧ 0 ≤ c ∧ c ≤ 14) ∧ (0 ≤ n ∧ n ≤ 7) ∧ (2 ≤ t ∧ t ≤ 20) ∧ 0 ≤ w ∧ w ≤ 1 by omega)), e7_88, e9_153, hz, hy, fgc_fgs]; rfl), ⟨(Ct.wa N), (Ct.wa P), _, _, rfl⟩⟩
                      · refine x_lload C 2 rfl dX11_fog_159 ?_
                        refine x_iload C 9 rfl dX11_fog_161 ?_
                        refine x_i2l C (by omega) dX11_fog_163 ?_
                        refine x_lmul C dX11_fog_164 ?_
                        refine x_lstore C [(9, .long (jN (v9_153 * t))), (13, .int (iN ((k2 : Int)))), (11, .long (jN (v11_88))), (7, .long (jN (v7_88))), (6, .int (iN (s0_23))), (0, .ref (b 0)), (1, .int (iN (i))), (2, .int (iN (c))), (3, .int (iN (n))), (4, .int (iN (t))), (5, .int (iN (w)))] (by decide) rfl dX11_fog_165 ?_
                        refine x_iinc C 1 [(13, .int (iN ((k2 : Int) + 1))), (9, .long (jN (v9_153 * t))), (11, .long (jN (v11_88))), (7, .long (jN (v7_88))), (6, .int (iN (s0_23))), (0, .ref (b 0)), (1, .int (iN (i))), (2, .int (iN (c))), (3, .int (iN (n))), (4, .int (iN (t))), (5, .int (iN (w)))] rfl rfl (by decide) rfl dX11_fog_167 ?_
                        refine x_goto C 153 (by decide) dX11_fog_170 ?_
                        refine Wx.subL [0, 2, 1, 3, 4, 5, 6, 7, 8, 9, 10] rfl ?_
                        exact ih153 (k2 + 1) _ _ (by omega) (by omega) (by omega) (by rw [Int.pow_succ, e9_153])
                  exact LP153 ((n.toNat - (0)) + 1) (0) _ _ (by omega) (by omega) (by omega) (by simp)
                · refine x_aload_n C 5 rfl rfl dX11_fog_94 ?_
                  refine x_get C in_X11_fog_X11 0 rfl rfl 2 (by decide) (List.mem_of_getElem? (i := 3) rfl) rfl (v := .ref (b 38)) rfl dX11_fog_95 ?_
                  refine x_get C in_X11_fog_X1 38 rfl rfl 7 (by decide) (List.mem_of_getElem? (i := 4) rfl) rfl (v := .ref (b 43)) rfl dX11_fog_98 ?_
                  refine x_iload_n C 6 rfl rfl dX11_fog_101 ?_
                  refine x_iaload C (f := Ct.po (Ct.days N k)) 43 rfl (by omega) rfl dX11_fog_102 ?_
                  have b160 := WFc.po (Ct.days_wf hN k) (i)
                  refine x_iload_n C 7 rfl rfl dX11_fog_103 ?_
                  refine x_icmp_ne C 114 (by decide) (by omega) dX11_fog_104 (fun c_104 => ?_) (fun c_104 => ?_)
                  · refine x_lload C 1 rfl dX11_fog_114 ?_
                    refine x_iload_n C 8 rfl rfl dX11_fog_116 ?_
                    refine x_iload C 0 rfl dX11_fog_117 ?_
                    refine x_isub C dX11_fog_119 ?_
                    refine x_i2l C (by omega) dX11_fog_120 ?_
                    refine x_lmul C dX11_fog_121 ?_
                    refine x_iload C 0 rfl dX11_fog_122 ?_
                    refine x_iconst (v := 0) C dX11_fog_124 ?_
                    refine x_iadd C dX11_fog_125 ?_
                    refine x_i2l C (by omega) dX11_fog_126 ?_
                    have hdv : 0 ≤ v11_88 * (n - (k : Int)) ∧ v11_88 * (n - (k : Int)) ≤ 44800000000 * 7 := ⟨Int.mul_nonneg (by omega) (by omega), Int.mul_le_mul (by omega) (by omega) (by omega) (by decide)⟩
                    refine x_ldiv C (by omega) dX11_fog_127 ?_
                    refine x_iload C 9 rfl dX11_fog_128 ?_
                    refine x_iconst (v := 0) C dX11_fog_130 ?_
                    refine x_isub C dX11_fog_131 ?_
                    refine x_i2l C (by omega) dX11_fog_132 ?_
                    refine x_lmul C dX11_fog_133 ?_
                    rw [show ((v11_88 * (n - (k : Int))) / ((k : Int) + 1)) * (t - 1) = odz n.toNat t (k + 1) from (by have hs := odz_s (n := n.toNat) (t := t) (k := k) (by omega) (by omega); rw [show ((n.toNat : Nat) : Int) = n by omega] at hs; rw [e11_88]; exact hs)]
                    refine x_lstore C [(11, .long (jN (odz n.toNat t (k + 1)))), (13, .int (iN ((k : Int)))), (9, .long (jN (1))), (7, .long (jN (v7_88))), (6, .int (iN (s0_23))), (0, .ref (b 0)), (1, .int (iN (i))), (2, .int (iN (c))), (3, .int (iN (n))), (4, .int (iN (t))), (5, .int (iN (w)))] (by decide) rfl dX11_fog_134 ?_
                    refine x_aload_n C 5 rfl rfl dX11_fog_136 ?_
                    refine x_get C in_X11_fog_X11 0 rfl rfl 2 (by decide) (List.mem_of_getElem? (i := 3) rfl) rfl (v := .ref (b 38)) rfl dX11_fog_137 ?_
                    refine x_V_I C (As := []) (rest := []) 0 38 rfl rfl gX11_fog_X1_passDay rfl (MI.fM b F N (Ct.set_wa (Ct.days N k) (WA)) P hp sd (fun r Z => r = ((Ct.D (Ct.set_wa (Ct.days N k) (WA)) (Ct.n (Ct.set_wa (Ct.days N k) (WA))).toNat).2.2) ∧ (Ct.day (Ct.set_wa (Ct.days N k) (WA))) = Z) (c_X1_passDay _ _ (adM b) (Ct.set_wa (Ct.days N k) (WA)) (Ct.days_wf hN k)) (fun r w h => ⟨_, ⟨h.1, rfl⟩, h.2⟩)) rfl ok_X1_passDay rfl rfl rfl rfl dX11_fog_140 (fun r w1 hp => ?_)
                    obtain ⟨_, ⟨rfl, rfl⟩, rfl⟩ := hp
                    show Wx X 0 0 (WX X.γ b F N (Ct.set_wa (Ct.day (Ct.days N k)) (WA)) P hp sd) 143 [(11, .long (jN (odz n.toNat t (k + 1)))), (13, .int (iN ((k : Int)))), (9, .long (jN (1))), (7, .long (jN (v7_88))), (6, .int (iN (s0_23))), (0, .ref (b 0)), (1, .int (iN (i))), (2, .int (iN (c))), (3, .int (iN (n))), (4, .int (iN (t))), (5, .int (iN (w)))] [.int (iN ((Ct.D (Ct.days N k) (Ct.n (Ct.days N k)).toNat).2.2))]
                    show Wx X 0 0 (WX X.γ b F N (Ct.set_wa (Ct.day (Ct.days N k)) (WA)) P hp sd) 143 [(11, .long (jN (odz n.toNat t (k + 1)))), (13, .int (iN ((k : Int)))), (9, .long (jN (1))), (7, .long (jN (v7_88))), (6, .int (iN (s0_23))), (0, .ref (b 0)), (1, .int (iN (i))), (2, .int (iN (c))), (3, .int (iN (n))), (4, .int (iN (t))), (5, .int (iN (w)))] [.int (iN ((Ct.D (Ct.days N k) (Ct.n (Ct.days N k)).toNat).2.2))]
                    refine x_pop C rfl dX11_fog_143 ?_
                    refine x_iinc C 1 [(13, .int (iN ((k : Int) + 1))), (11, .long (jN (odz n.toNat t (k + 1)))), (9, .long (jN (1))), (7, .long (jN (v7_88))), (6, .int (iN (s0_23))), (0, .ref (b 0)), (1, .int (iN (i))), (2, .int (iN (c))), (3, .int (iN (n))), (4, .int (iN (t))), (5, .int (iN (w)))] rfl rfl (by decide) rfl dX11_fog_144 ?_
                    refine x_goto C 88 (by decide) dX11_fog_147 ?_
                    exact ih88 (k + 1) (WA) _ _ _ (by omega) (by omega) (by omega) (rfl) (by simp only [fgc]; rw [← e7_88, if_neg c_104]; omega)
                  · refine x_lload C 3 rfl dX11_fog_107 ?_
                    refine x_lload C 1 rfl dX11_fog_109 ?_
                    refine x_ladd C dX11_fog_111 ?_
                    refine x_lstore C [(7, .long (jN (v7_88 + v11_88))), (13, .int (iN ((k : Int)))), (11, .long (jN (v11_88))), (9, .long (jN (1))), (6, .int (iN (s0_23))), (0, .ref (b 0)), (1, .int (iN (i))), (2, .int (iN (c))), (3, .int (iN (n))), (4, .int (iN (t))), (5, .int (iN (w)))] (by decide) rfl dX11_fog_112 ?_
                    refine x_lload C 2 rfl dX11_fog_114 ?_
                    refine x_iload_n C 8 rfl rfl dX11_fog_116 ?_
                    refine x_iload C 1 rfl dX11_fog_117 ?_
                    refine x_isub C dX11_fog_119 ?_
                    refine x_i2l C (by omega) dX11_fog_120 ?_
                    refine x_lmul C dX11_fog_121 ?_
                    refine x_iload C 1 rfl dX11_fog_122 ?_
                    refine x_iconst (v := 0) C dX11_fog_124 ?_
                    refine x_iadd C dX11_fog_125 ?_
                    refine x_i2l C (by omega) dX11_fog_126 ?_
                    have hdv : 0 ≤ v11_88 * (n - (k : Int)) ∧ v11_88 * (n - (k : Int)) ≤ 44800000000 * 7 := ⟨Int.mul_nonneg (by omega) (by omega), Int.mul_le_mul (by omega) (by omega) (by omega) (by decide)⟩
                    refine x_ldiv C (by omega) dX11_fog_127 ?_
                    refine x_iload C 9 rfl dX11_fog_128 ?_
                    refine x_iconst (v := 0) C dX11_fog_130 ?_
                    refine x_isub C dX11_fog_131 ?_
                    refine x_i2l C (by omega) dX11_fog_132 ?_
                    refine x_lmul C dX11_fog_133 ?_
                    rw [show ((v11_88 * (n - (k : Int))) / ((k : Int) + 1)) * (t - 1) = odz n.toNat t (k + 1) from (by have hs := odz_s (n := n.toNat) (t := t) (k := k) (by omega) (by omega); rw [show ((n.toNat : Nat) : Int) = n by omega] at hs; rw [e11_88]; exact hs)]
                    refine x_lstore C [(11, .long (jN (odz n.toNat t (k + 1)))), (7, .long (jN (v7_88 + v11_88))), (13, .int (iN ((k : Int)))), (9, .long (jN (1))), (6, .int (iN (s0_23))), (0, .ref (b 0)), (1, .int (iN (i))), (2, .int (iN (c))), (3, .int (iN (n))), (4, .int (iN (t))), (5, .int (iN (w)))] (by decide) rfl dX11_fog_134 ?_
                    refine x_aload_n C 5 rfl rfl dX11_fog_136 ?_
                    refine x_get C in_X11_fog_X11 0 rfl rfl 2 (by decide) (List.mem_of_getElem? (i := 3) rfl) rfl (v := .ref (b 38)) rfl dX11_fog_137 ?_
                    refine x_V_I C (As := []) (rest := []) 0 38 rfl rfl gX11_fog_X1_passDay rfl (MI.fM b F N (Ct.set_wa (Ct.days N k) (WA)) P hp sd (fun r Z => r = ((Ct.D (Ct.set_wa (Ct.days N k) (WA)) (Ct.n (Ct.set_wa (Ct.days N k) (WA))).toNat).2.2) ∧ (Ct.day (Ct.set_wa (Ct.days N k) (WA))) = Z) (c_X1_passDay _ _ (adM b) (Ct.set_wa (Ct.days N k) (WA)) (Ct.days_wf hN k)) (fun r w h => ⟨_, ⟨h.1, rfl⟩, h.2⟩)) rfl ok_X1_passDay rfl rfl rfl rfl dX11_fog_140 (fun r w1 hp => ?_)
                    obtain ⟨_, ⟨rfl, rfl⟩, rfl⟩ := hp
                    show Wx X 0 0 (WX X.γ b F N (Ct.set_wa (Ct.day (Ct.days N k)) (WA)) P hp sd) 143 [(11, .long (jN (odz n.toNat t (k + 1)))), (7, .long (jN (v7_88 + v11_88))), (13, .int (iN ((k : Int)))), (9, .long (jN (1))), (6, .int (iN (s0_23))), (0, .ref (b 0)), (1, .int (iN (i))), (2, .int (iN (c))), (3, .int (iN (n))), (4, .int (iN (t))), (5, .int (iN (w)))] [.int (iN ((Ct.D (Ct.days N k) (Ct.n (Ct.days N k)).toNat).2.2))]
                    show Wx X 0 0 (WX X.γ b F N (Ct.set_wa (Ct.day (Ct.days N k)) (WA)) P hp sd) 143 [(11, .long (jN (odz n.toNat t (k + 1)))), (7, .long (jN (v7_88 + v11_88))), (13, .int (iN ((k : Int)))), (9, .long (jN (1))), (6, .int (iN (s0_23))), (0, .ref (b 0)), (1, .int (iN (i))), (2, .int (iN (c))), (3, .int (iN (n))), (4, .int (iN (t))), (5, .int (iN (w)))] [.int (iN ((Ct.D (Ct.days N k) (Ct.n (Ct.days N k)).toNat).2.2))]
                    refine x_pop C rfl dX11_fog_143 ?_
                    refine x_iinc C 2 [(13, .int (iN ((k : Int) + 1))), (11, .long (jN (odz n.toNat t (k + 1)))), (7, .long (jN (v7_88 + v11_88))), (9, .long (jN (1))), (6, .int (iN (s0_23))), (0, .ref (b 0)), (1, .int (iN (i))), (2, .int (iN (c))), (3, .int (iN (n))), (4, .int (iN (t))), (5, .int (iN (w)))] rfl rfl (by decide) rfl dX11_fog_144 ?_
                    refine x_goto C 88 (by decide) dX11_fog_147 ?_
                    refine Wx.subL [0, 1, 3, 2, 4, 5, 6, 7, 8, 9, 10] rfl ?_
                    exact ih88 (k + 1) (WA) _ _ _ (by omega) (by omega) (by omega) (rfl) (by simp only [fgc]; rw [← e7_88, if_pos c_104, e11_88])
            exact LP88 ((n.toNat + 1 - (0)) + 1) (0) (Ct.wa M) _ _ _ (by omega) (by omega) (by omega) (by unfold odz; rw [bn_0]; simp) (rfl)
          · refine x_ldc2 C (1000000001) (List.mem_of_getElem? (i := 2) rfl) (by decide) dX11_fog_61 ?_
            exact hret _ _ _ _ dX11_fog_64 ⟨(by unfold q_fog; rw [if_neg (show ¬ ((q_one N i ∧ q_cell c) ∧ (0 ≤ n ∧ n ≤ 7) ∧ (2 ≤ t ∧ t ≤ 20) ∧ 0 ≤ w ∧ w ≤ 1) from (show ¬ (((0 ≤ i ∧ i ≤ Ct.n N - 1) ∧ 0 ≤ c ∧ c ≤ 14) ∧ (0 ≤ n ∧ n ≤ 7) ∧ (2 ≤ t ∧ t ≤ 20) ∧ 0 ≤ w ∧ w ≤ 1) by omega))]), ⟨(Ct.wa N), (Ct.wa P), _, _, rfl⟩⟩
  refine x_ifeq_bz C 22 (by decide) dX11_fog_8 (fun c_8 => ?_) (fun c_8 => ?_)
  · refine x_iconst (v := 0) C dX11_fog_22 ?_
    exact LP23 _ (by omega)
  · refine x_iload_n C 2 rfl rfl dX11_fog_11 ?_
    refine x_S_I C (As := [.int (iN (c))]) (rest := []) 1 gX11_fog_X11_isCell (c_X11_isCell _ _ (WX X.γ b F N M P hp sd) (c) (by omega)) rfl ok_X11_isCell rfl rfl rfl rfl dX11_fog_12 (fun r w1 hp => ?_)
    obtain ⟨rfl, rfl⟩ := hp
    refine x_ifeq_bz C 22 (by decide) dX11_fog_15 (fun c_15 => ?_) (fun c_15 => ?_)
    · refine x_iconst (v := 0) C dX11_fog_22 ?_
      exact LP23 _ (by omega)
    · refine x_iconst (v := 0) C dX11_fog_18 ?_
      refine x_goto C 23 (by decide) dX11_fog_19 ?_
      exact LP23 _ (by omega)
end HXIaa
