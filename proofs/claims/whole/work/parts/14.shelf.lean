section HSHE
theorem ok_J7_fill_53178 : okY yJ7_fill_53178 2 := by decide +kernel
def rmJ7_fill_53178 : Room := { frames := 0, cells := 0, slots := 0, locals := 0 }
set_option maxRecDepth 100000 in
set_option maxHeartbeats 4000000 in
theorem c_J7_fill_53178 (l : Launch) (γ : GX) (r N : Nat) (F : Int → Int) (v : Int) (hN : N ≤ 1000) : MV l γ yJ7_fill_53178 wsJ7_fill_53178 rmJ7_fill_53178 [.ref (r), .int (iN (v))] [(r, aI γ N (F))] (fun w_ => w_ = [(r, aI γ N (fun _ => v))]) 0 0 := by
  refine MV.of (cc := cJ7_fill_53178) (maxL := 4) RJ7 rfl (by decide +kernel) rfl (Nat.le_of_ble_eq_true rfl) ?_
  intro X C hγ hl hnm hret
  subst hγ
  show Wx X 0 0 [(r, aI X.γ N (F))] 0 [(0, .ref (r)), (1, .int (iN (v)))] []
  refine x_iconst (v := 0) C dJ7_fill_53178_0 ?_
  refine x_istore_n C [(2, .int (iN (0))), (0, .ref (r)), (1, .int (iN (v)))] rfl (by decide) rfl dJ7_fill_53178_1 ?_
  refine x_aload_n C 1 rfl rfl dJ7_fill_53178_2 ?_
  refine x_alen C (f := (F)) 0 rfl dJ7_fill_53178_3 ?_
  refine x_istore_n C [(3, .int (iN (((N : Nat) : Int)))), (2, .int (iN (0))), (0, .ref (r)), (1, .int (iN (v)))] rfl (by decide) rfl dJ7_fill_53178_4 ?_
  have LP5 : ∀ (f : Nat) (k : Nat) (G : Int → Int) (v2_5 : Int), (N - k < f) → (k ≤ N) → (∀ j : Int, 0 ≤ j → j < (k : Int) → G j = v) → (((k : Int)) = v2_5) → Wx X 0 0 [(r, aI X.γ N (G))] 5 [(3, .int (iN (((N : Nat) : Int)))), (2, .int (iN (v2_5))), (0, .ref (r)), (1, .int (iN (v)))] [] := by
    intro f
    induction f with
    | zero => intro k G v2_5 hf; exact absurd hf (Nat.not_lt_zero _)
    | succ f ih5 =>
      intro k G v2_5 hf hk hG e2_5
      subst e2_5
      refine x_iload_n C 1 rfl rfl dJ7_fill_53178_5 ?_
      refine x_iload_n C 0 rfl rfl dJ7_fill_53178_6 ?_
      refine x_icmp_ge C 20 (by decide) (by omega) dJ7_fill_53178_7 (fun c_7 => ?_) (fun c_7 => ?_)
      · refine x_canonI (f := G) (g := fun _ => v) 0 rfl (fun i h1 h2 => hG i h1 (by omega)) [(r, aI X.γ N (fun _ => v))] rfl ?_
        exact hret _ _ _ dJ7_fill_53178_20 rfl
      · refine x_aload_n C 2 rfl rfl dJ7_fill_53178_10 ?_
        refine x_iload_n C 1 rfl rfl dJ7_fill_53178_11 ?_
        refine x_iload_n C 3 rfl rfl dJ7_fill_53178_12 ?_
        refine x_iastore C (f := (G)) 0 rfl (by omega) (Nat.ble_eq.mpr (by omega)) [(r, aI X.γ N (upz (G) (k : Int) v))] rfl dJ7_fill_53178_13 ?_
        refine x_iinc C 1 [(2, .int (iN ((k : Int) + 1))), (3, .int (iN (((N : Nat) : Int)))), (0, .ref (r)), (1, .int (iN (v)))] rfl rfl (by decide) rfl dJ7_fill_53178_14 ?_
        refine x_goto C 5 (by decide) dJ7_fill_53178_17 ?_
        refine Wx.subL [1, 0, 2, 3] rfl ?_
        exact ih5 (k + 1) (upz (G) (k : Int) v) _ (by omega) (by omega) (fun j h1 h2 => upz_up (F := fun _ => v) hG rfl j h1 (by omega)) (by omega)
  exact LP5 ((N - (0)) + 1) (0) (F) _ (by omega) (by omega) (fun j h1 h2 => by omega) (by omega)
theorem in_X5_holdNothing_X5 : ∀ w ∈ u_ws RX5 TX5 6, w ∈ wsX5_holdNothing := by decide +kernel
theorem ok_X5_holdNothing : okY yX5_holdNothing 0 := by decide +kernel
def rmX5_holdNothing : Room := { frames := 0, cells := 0, slots := 0, locals := 0 }
set_option maxRecDepth 100000 in
set_option maxHeartbeats 4000000 in
theorem c_X5_holdNothing (l : Launch) (γ : GX) (s : Nat → Nat) (S0 : Sh) : MV l γ yX5_holdNothing wsX5_holdNothing rmX5_holdNothing [.ref (s 0)] (SH γ s S0) (fun w_ => w_ = SH γ s (Sh.set_hd S0 0)) 0 0 := by
  refine MV.of (cc := cX5_holdNothing) (maxL := 1) RX5 rfl (by decide +kernel) rfl (Nat.le_of_ble_eq_true rfl) ?_
  intro X C hγ hl hnm hret
  subst hγ
  show Wx X 0 0 (SH X.γ s S0) 0 [(0, .ref (s 0))] []
  refine x_aload_n C 0 rfl rfl dX5_holdNothing_0 ?_
  refine x_iconst (v := 0) C dX5_holdNothing_1 ?_
  refine x_put C in_X5_holdNothing_X5 tyX5 tyX5_ok nmX5 0 rfl rfl 0 (by decide) (List.mem_of_getElem? (i := 1) rfl) rfl rfl rfl rfl rfl (Nat.le_of_ble_eq_true rfl) (SH X.γ s (Sh.set_hd S0 (0))) rfl dX5_holdNothing_2 ?_
  exact hret _ _ _ dX5_holdNothing_5 rfl
theorem in_X5_holdKind_X5 : ∀ w ∈ u_ws RX5 TX5 6, w ∈ wsX5_holdKind := by decide +kernel
theorem ok_X5_holdKind : okY yX5_holdKind 2 := by decide +kernel
def rmX5_holdKind : Room := { frames := 0, cells := 0, slots := 0, locals := 0 }
set_option maxRecDepth 100000 in
set_option maxHeartbeats 4000000 in
theorem c_X5_holdKind (l : Launch) (γ : GX) (s : Nat → Nat) (S0 : Sh) (k : Int) (fg : Int) : MV l γ yX5_holdKind wsX5_holdKind rmX5_holdKind [.ref (s 0), .int (iN (k)), .int (iN (fg))] (SH γ s S0) (fun w_ => w_ = SH γ s (Sh.set_fg (Sh.set_kd (Sh.set_hd S0 1) k) fg)) 0 0 := by
  refine MV.of (cc := cX5_holdKind) (maxL := 3) RX5 rfl (by decide +kernel) rfl (Nat.le_of_ble_eq_true rfl) ?_
  intro X C hγ hl hnm hret
  subst hγ
  show Wx X 0 0 (SH X.γ s S0) 0 [(0, .ref (s 0)), (1, .int (iN (k))), (2, .int (iN (fg)))] []
  refine x_aload_n C 0 rfl rfl dX5_holdKind_0 ?_
  refine x_iconst (v := 0) C dX5_holdKind_1 ?_
  refine x_put C in_X5_holdKind_X5 tyX5 tyX5_ok nmX5 0 rfl rfl 0 (by decide) (List.mem_of_getElem? (i := 1) rfl) rfl rfl rfl rfl rfl (Nat.le_of_ble_eq_true rfl) (SH X.γ s (Sh.set_hd S0 (1))) rfl dX5_holdKind_2 ?_
  refine x_aload_n C 0 rfl rfl dX5_holdKind_5 ?_
  refine x_iload_n C 1 rfl rfl dX5_holdKind_6 ?_
  refine x_put C in_X5_holdKind_X5 tyX5 tyX5_ok nmX5 0 rfl rfl 1 (by decide) (List.mem_of_getElem? (i := 2) rfl) rfl rfl rfl rfl rfl (Nat.le_of_ble_eq_true rfl) (SH X.γ s (Sh.set_kd (Sh.set_hd S0 (1)) (k))) rfl dX5_holdKind_7 ?_
  refine x_aload_n C 0 rfl rfl dX5_holdKind_10 ?_
  refine x_iload_n C 2 rfl rfl dX5_holdKind_11 ?_
  refine x_put C in_X5_holdKind_X5 tyX5 tyX5_ok nmX5 0 rfl rfl 2 (by decide) (List.mem_of_getElem? (i := 3) rfl) rfl rfl rfl rfl rfl (Nat.le_of_ble_eq_true rfl) (SH X.γ s (Sh.set_fg (Sh.set_kd (Sh.set_hd S0 (1)) (k)) (fg))) rfl dX5_holdKind_12 ?_
  exact hret _ _ _ dX5_holdKind_15 rfl
theorem in_X5_holdRow_X5 : ∀ w ∈ u_ws RX5 TX5 6, w ∈ wsX5_holdRow := by decide +kernel
theorem ok_X5_holdRow : okY yX5_holdRow 2 := by decide +kernel
def rmX5_holdRow : Room := { frames := 1, cells := 0, slots := 0, locals := 23 }
set_option maxRecDepth 100000 in
set_option maxHeartbeats 4000000 in
theorem c_X5_holdRow (l : Launch) (γ : GX) (s : Nat → Nat) (S0 : Sh) (so : Int) (m : Int) : MV l γ yX5_holdRow wsX5_holdRow rmX5_holdRow [.ref (s 0), .int (iN (so)), .int (iN (m))] (SH γ s S0) (fun w_ => w_ = SH γ s (Sh.set_va (Sh.set_sz (Sh.set_so (Sh.set_hd S0 2) so) m) (fun _ => 0))) 0 0 := by
  refine MV.of (cc := cX5_holdRow) (maxL := 3) RX5 rfl (by decide +kernel) rfl (Nat.le_of_ble_eq_true rfl) ?_
  intro X C hγ hl hnm hret
  subst hγ
  show Wx X 0 0 (SH X.γ s S0) 0 [(0, .ref (s 0)), (1, .int (iN (so))), (2, .int (iN (m)))] []
  refine x_aload_n C 0 rfl rfl dX5_holdRow_0 ?_
  refine x_iconst (v := 0) C dX5_holdRow_1 ?_
  refine x_put C in_X5_holdRow_X5 tyX5 tyX5_ok nmX5 0 rfl rfl 0 (by decide) (List.mem_of_getElem? (i := 1) rfl) rfl rfl rfl rfl rfl (Nat.le_of_ble_eq_true rfl) (SH X.γ s (Sh.set_hd S0 (2))) rfl dX5_holdRow_2 ?_
  refine x_aload_n C 0 rfl rfl dX5_holdRow_5 ?_
  refine x_iload_n C 1 rfl rfl dX5_holdRow_6 ?_
  refine x_put C in_X5_holdRow_X5 tyX5 tyX5_ok nmX5 0 rfl rfl 3 (by decide) (List.mem_of_getElem? (i := 2) rfl) rfl rfl rfl rfl rfl (Nat.le_of_ble_eq_true rfl) (SH X.γ s (Sh.set_so (Sh.set_hd S0 (2)) (so))) rfl dX5_holdRow_7 ?_
  refine x_aload_n C 0 rfl rfl dX5_holdRow_10 ?_
  refine x_iload_n C 2 rfl rfl dX5_holdRow_11 ?_
  refine x_put C in_X5_holdRow_X5 tyX5 tyX5_ok nmX5 0 rfl rfl 4 (by decide) (List.mem_of_getElem? (i := 3) rfl) rfl rfl rfl rfl rfl (Nat.le_of_ble_eq_true rfl) (SH X.γ s (Sh.set_sz (Sh.set_so (Sh.set_hd S0 (2)) (so)) (m))) rfl dX5_holdRow_12 ?_
  refine x_aload_n C 0 rfl rfl dX5_holdRow_15 ?_
  refine x_get C in_X5_holdRow_X5 0 rfl rfl 5 (by decide) (List.mem_of_getElem? (i := 4) rfl) rfl (v := .ref (s 1)) rfl dX5_holdRow_16 ?_
  refine x_iconst (v := 0) C dX5_holdRow_19 ?_
  refine x_S_V C (As := [.ref (s 1), .int (iN (0))]) (rest := []) 2 gX5_holdRow_J7_fill_53178 ((c_J7_fill_53178 _ _ (s 1) 100 (Sh.va S0) (0) (by decide)).app [(s 0, ob 5 [.int (iN (2)), .int (iN (Sh.kd S0)), .int (iN (Sh.fg S0)), .int (iN (so)), .int (iN (m)), .ref (s 1)])] []) rfl ok_J7_fill_53178 rfl rfl rfl rfl dX5_holdRow_20 (fun w1 hp => ?_)
  obtain ⟨_, rfl, rfl⟩ := hp
  refine Wx.eqW (ws' := (SH X.γ s (Sh.set_va (Sh.set_sz (Sh.set_so (Sh.set_hd S0 (2)) (so)) (m)) (fun _ => 0)))) rfl ?_
  exact hret _ _ _ dX5_holdRow_23 rfl
theorem in_X5_hasPlaces_X5 : ∀ w ∈ u_ws RX5 TX5 6, w ∈ wsX5_hasPlaces := by decide +kernel
theorem ok_X5_hasPlaces : okY yX5_hasPlaces 2 := by decide +kernel
def rmX5_hasPlaces : Room := { frames := 1, cells := 0, slots := 0, locals := 22 }
set_option maxRecDepth 100000 in
set_option maxHeartbeats 4000000 in
theorem c_X5_hasPlaces (l : Launch) (γ : GX) (s : Nat → Nat) (S0 : Sh) (hS : WFs S0) (i : Int) (m : Int) (h0_ : -2147483648 ≤ i ∧ i < 2147483648) (h1_ : -2147483648 ≤ m ∧ m < 2147483648) : MI l γ yX5_hasPlaces wsX5_hasPlaces rmX5_hasPlaces [.ref (s 0), .int (iN (i)), .int (iN (m))] (SH γ s S0) (fun r_ w_ => r_ = bz ((0 ≤ m ∧ m ≤ Sh.sz S0) ∧ 0 ≤ i ∧ i ≤ Sh.sz S0 - m) ∧ w_ = SH γ s S0) 0 0 := by
  refine MI.of (cc := cX5_hasPlaces) (maxL := 3) (rt := .boolean) RX5 rfl (by decide +kernel) rfl (Nat.le_of_ble_eq_true rfl) ?_
  intro X C hγ hl hnm hret
  subst hγ
  have hSz := WFs.sz hS
  have hSo := WFs.so hS
  show Wx X 0 0 (SH X.γ s S0) 0 [(0, .ref (s 0)), (1, .int (iN (i))), (2, .int (iN (m)))] []
  refine x_iload_n C 2 rfl rfl dX5_hasPlaces_0 ?_
  refine x_if_lt C 30 (by decide) (by omega) dX5_hasPlaces_1 (fun c_1 => ?_) (fun c_1 => ?_)
  · refine x_iconst (v := 0) C dX5_hasPlaces_30 ?_
    exact hret _ _ _ _ dX5_hasPlaces_31 (nar_z (by decide)) ⟨(bz_f (by omega)).symm, rfl⟩
  · refine x_iload_n C 2 rfl rfl dX5_hasPlaces_4 ?_
    refine x_aload_n C 0 rfl rfl dX5_hasPlaces_5 ?_
    refine x_get C in_X5_hasPlaces_X5 0 rfl rfl 4 (by decide) (List.mem_of_getElem? (i := 1) rfl) rfl (v := .int (iN (Sh.sz S0))) rfl dX5_hasPlaces_6 ?_
    refine x_icmp_gt C 30 (by decide) (by omega) dX5_hasPlaces_9 (fun c_9 => ?_) (fun c_9 => ?_)
    · refine x_iconst (v := 0) C dX5_hasPlaces_30 ?_
      exact hret _ _ _ _ dX5_hasPlaces_31 (nar_z (by decide)) ⟨(bz_f (by omega)).symm, rfl⟩
    · refine x_iload_n C 1 rfl rfl dX5_hasPlaces_12 ?_
      refine x_iconst (v := 0) C dX5_hasPlaces_13 ?_
      refine x_aload_n C 0 rfl rfl dX5_hasPlaces_14 ?_
      refine x_get C in_X5_hasPlaces_X5 0 rfl rfl 4 (by decide) (List.mem_of_getElem? (i := 1) rfl) rfl (v := .int (iN (Sh.sz S0))) rfl dX5_hasPlaces_15 ?_
      refine x_iload_n C 2 rfl rfl dX5_hasPlaces_18 ?_
      refine x_isub C dX5_hasPlaces_19 ?_
      refine x_N_I C (As := [.int (iN (i)), .int (iN (0)), .int (iN ((Sh.sz S0) - m))]) (rest := []) (host := RX11) 3 gX5_hasPlaces_X11_isWithin_n37 (List.mem_of_getElem? (i := 0) rfl) (List.mem_of_getElem? (i := 3) rfl) (List.mem_of_getElem? (i := 2) rfl) (c_X11_isWithin _ _ (SH X.γ s S0) (i) (0) ((Sh.sz S0) - m) (by omega) (by omega) (by omega)) rfl ok_X11_isWithin rfl rfl rfl rfl dX5_hasPlaces_20 (fun r w1 hp => ?_)
      obtain ⟨rfl, rfl⟩ := hp
      refine x_ifeq_bz C 30 (by decide) dX5_hasPlaces_23 (fun c_23 => ?_) (fun c_23 => ?_)
      · refine x_iconst (v := 0) C dX5_hasPlaces_30 ?_
        exact hret _ _ _ _ dX5_hasPlaces_31 (nar_z (by decide)) ⟨(bz_f (by omega)).symm, rfl⟩
      · refine x_iconst (v := 0) C dX5_hasPlaces_26 ?_
        refine x_goto C 31 (by decide) dX5_hasPlaces_27 ?_
        exact hret _ _ _ _ dX5_hasPlaces_31 (nar_z (by decide)) ⟨(bz_t (by omega)).symm, rfl⟩
theorem in_X5_valueOrZero_X5 : ∀ w ∈ u_ws RX5 TX5 6, w ∈ wsX5_valueOrZero := by decide +kernel
theorem ok_X5_valueOrZero : okY yX5_valueOrZero 1 := by decide +kernel
def rmX5_valueOrZero : Room := { frames := 1, cells := 0, slots := 0, locals := 22 }
set_option maxRecDepth 100000 in
set_option maxHeartbeats 4000000 in
theorem c_X5_valueOrZero (l : Launch) (γ : GX) (s : Nat → Nat) (S0 : Sh) (hS : WFs S0) (i : Int) (h0_ : -2147483648 ≤ i ∧ i < 2147483648) : MI l γ yX5_valueOrZero wsX5_valueOrZero rmX5_valueOrZero [.ref (s 0), .int (iN (i))] (SH γ s S0) (fun r_ w_ => r_ = Sh.vz S0 i ∧ w_ = SH γ s S0) 0 0 := by
  refine MI.of (cc := cX5_valueOrZero) (maxL := 2) (rt := .int) RX5 rfl (by decide +kernel) rfl (Nat.le_of_ble_eq_true rfl) ?_
  intro X C hγ hl hnm hret
  subst hγ
  have hSz := WFs.sz hS
  have hSo := WFs.so hS
  show Wx X 0 0 (SH X.γ s S0) 0 [(0, .ref (s 0)), (1, .int (iN (i)))] []
  refine x_iload_n C 1 rfl rfl dX5_valueOrZero_0 ?_
  refine x_iconst (v := 0) C dX5_valueOrZero_1 ?_
  refine x_aload_n C 0 rfl rfl dX5_valueOrZero_2 ?_
  refine x_get C in_X5_valueOrZero_X5 0 rfl rfl 4 (by decide) (List.mem_of_getElem? (i := 1) rfl) rfl (v := .int (iN (Sh.sz S0))) rfl dX5_valueOrZero_3 ?_
  refine x_iconst (v := 0) C dX5_valueOrZero_6 ?_
  refine x_isub C dX5_valueOrZero_7 ?_
  refine x_N_I C (As := [.int (iN (i)), .int (iN (0)), .int (iN ((Sh.sz S0) - 1))]) (rest := []) (host := RX11) 3 gX5_valueOrZero_X11_isWithin_n37 (List.mem_of_getElem? (i := 0) rfl) (List.mem_of_getElem? (i := 4) rfl) (List.mem_of_getElem? (i := 3) rfl) (c_X11_isWithin _ _ (SH X.γ s S0) (i) (0) ((Sh.sz S0) - 1) (by omega) (by omega) (by omega)) rfl ok_X11_isWithin rfl rfl rfl rfl dX5_valueOrZero_8 (fun r w1 hp => ?_)
  obtain ⟨rfl, rfl⟩ := hp
  refine x_ifeq_bz C 23 (by decide) dX5_valueOrZero_11 (fun c_11 => ?_) (fun c_11 => ?_)
  · refine x_iconst (v := 0) C dX5_valueOrZero_23 ?_
    exact hret _ _ _ _ dX5_valueOrZero_24 rfl ⟨(by simp only [Sh.vz]; omega), rfl⟩
  · refine x_aload_n C 0 rfl rfl dX5_valueOrZero_14 ?_
    refine x_get C in_X5_valueOrZero_X5 0 rfl rfl 5 (by decide) (List.mem_of_getElem? (i := 2) rfl) rfl (v := .ref (s 1)) rfl dX5_valueOrZero_15 ?_
    refine x_iload_n C 1 rfl rfl dX5_valueOrZero_18 ?_
    refine x_iaload C (f := Sh.va S0) 1 rfl (by omega) rfl dX5_valueOrZero_19 ?_
    have b48 := WFs.va hS (i)
    refine x_goto C 24 (by decide) dX5_valueOrZero_20 ?_
    exact hret _ _ _ _ dX5_valueOrZero_24 rfl ⟨(by simp only [Sh.vz]; omega), rfl⟩
theorem in_X5_store_X5 : ∀ w ∈ u_ws RX5 TX5 6, w ∈ wsX5_store := by decide +kernel
theorem ok_X5_store : okY yX5_store 2 := by decide +kernel
def rmX5_store : Room := { frames := 0, cells := 0, slots := 0, locals := 0 }
set_option maxRecDepth 100000 in
set_option maxHeartbeats 4000000 in
theorem c_X5_store (l : Launch) (γ : GX) (s : Nat → Nat) (S0 : Sh) (hS : WFs S0) (i : Int) (v : Int) (h0_ : 0 ≤ i ∧ i < 100) (h1_ : -2147483648 ≤ v ∧ v < 2147483648) : MV l γ yX5_store wsX5_store rmX5_store [.ref (s 0), .int (iN (i)), .int (iN (v))] (SH γ s S0) (fun w_ => w_ = SH γ s (Sh.set_va S0 (upz (Sh.va S0) i (nar (Sh.so S0) v)))) 0 0 := by
  refine MV.of (cc := cX5_store) (maxL := 3) RX5 rfl (by decide +kernel) rfl (Nat.le_of_ble_eq_true rfl) ?_
  intro X C hγ hl hnm hret
  subst hγ
  have hSz := WFs.sz hS
  have hSo := WFs.so hS
  show Wx X 0 0 (SH X.γ s S0) 0 [(0, .ref (s 0)), (1, .int (iN (i))), (2, .int (iN (v)))] []
  refine x_aload_n C 0 rfl rfl dX5_store_0 ?_
  refine x_get C in_X5_store_X5 0 rfl rfl 3 (by decide) (List.mem_of_getElem? (i := 1) rfl) rfl (v := .int (iN (Sh.so S0))) rfl dX5_store_1 ?_
  refine x_if_ne C 18 (by decide) (by omega) dX5_store_4 (fun c_4 => ?_) (fun c_4 => ?_)
  · refine x_aload_n C 0 rfl rfl dX5_store_18 ?_
    refine x_get C in_X5_store_X5 0 rfl rfl 3 (by decide) (List.mem_of_getElem? (i := 1) rfl) rfl (v := .int (iN (Sh.so S0))) rfl dX5_store_19 ?_
    refine x_iconst (v := 0) C dX5_store_22 ?_
    refine x_icmp_ne C 37 (by decide) (by omega) dX5_store_23 (fun c_23 => ?_) (fun c_23 => ?_)
    · refine x_aload_n C 0 rfl rfl dX5_store_37 ?_
      refine x_get C in_X5_store_X5 0 rfl rfl 5 (by decide) (List.mem_of_getElem? (i := 2) rfl) rfl (v := .ref (s 1)) rfl dX5_store_38 ?_
      refine x_iload_n C 1 rfl rfl dX5_store_41 ?_
      refine x_iload_n C 2 rfl rfl dX5_store_42 ?_
      refine x_iastore C (f := Sh.va S0) 1 rfl (by omega) rfl (SH X.γ s (Sh.set_va S0 (upz (Sh.va S0) i v))) rfl dX5_store_43 ?_
      exact hret _ _ _ dX5_store_44 (by unfold nar; rw [if_neg c_4, if_neg c_23])
    · refine x_aload_n C 0 rfl rfl dX5_store_26 ?_
      refine x_get C in_X5_store_X5 0 rfl rfl 5 (by decide) (List.mem_of_getElem? (i := 2) rfl) rfl (v := .ref (s 1)) rfl dX5_store_27 ?_
      refine x_iload_n C 1 rfl rfl dX5_store_30 ?_
      refine x_iload_n C 2 rfl rfl dX5_store_31 ?_
      refine x_i2s C (nsz v) (nsz_e _) dX5_store_32 ?_
      have b_32 := nsz_b v
      refine x_iastore C (f := Sh.va S0) 1 rfl (by omega) rfl (SH X.γ s (Sh.set_va S0 (upz (Sh.va S0) i (nsz v)))) rfl dX5_store_33 ?_
      refine x_goto C 44 (by decide) dX5_store_34 ?_
      exact hret _ _ _ dX5_store_44 (by unfold nar; rw [if_neg c_4, if_pos c_23])
  · refine x_aload_n C 0 rfl rfl dX5_store_7 ?_
    refine x_get C in_X5_store_X5 0 rfl rfl 5 (by decide) (List.mem_of_getElem? (i := 2) rfl) rfl (v := .ref (s 1)) rfl dX5_store_8 ?_
    refine x_iload_n C 1 rfl rfl dX5_store_11 ?_
    refine x_iload_n C 2 rfl rfl dX5_store_12 ?_
    refine x_i2b C (nbz v) (nbz_e _) dX5_store_13 ?_
    have b_13 := nbz_b v
    refine x_iastore C (f := Sh.va S0) 1 rfl (by omega) rfl (SH X.γ s (Sh.set_va S0 (upz (Sh.va S0) i (nbz v)))) rfl dX5_store_14 ?_
    refine x_goto C 44 (by decide) dX5_store_15 ?_
    exact hret _ _ _ dX5_store_44 (by unfold nar; rw [if_pos c_4])
theorem in_X5_skips_X5 : ∀ w ∈ u_ws RX5 TX5 6, w ∈ wsX5_skips := by decide +kernel
theorem ok_X5_skips : okY yX5_skips 1 := by decide +kernel
def rmX5_skips : Room := { frames := 0, cells := 0, slots := 0, locals := 0 }
set_option maxRecDepth 100000 in
set_option maxHeartbeats 4000000 in
theorem c_X5_skips (l : Launch) (γ : GX) (s : Nat → Nat) (S0 : Sh) (hS : WFs S0) (i : Int) (h0_ : 0 ≤ i ∧ i < 100) : MI l γ yX5_skips wsX5_skips rmX5_skips [.ref (s 0), .int (iN (i))] (SH γ s S0) (fun r_ w_ => r_ = bz (Sh.va S0 i = lsz (Sh.so S0)) ∧ w_ = SH γ s S0) 0 0 := by
  refine MI.of (cc := cX5_skips) (maxL := 2) (rt := .boolean) RX5 rfl (by decide +kernel) rfl (Nat.le_of_ble_eq_true rfl) ?_
  intro X C hγ hl hnm hret
  subst hγ
  have hSz := WFs.sz hS
  have hSo := WFs.so hS
  show Wx X 0 0 (SH X.γ s S0) 0 [(0, .ref (s 0)), (1, .int (iN (i)))] []
  refine x_aload_n C 0 rfl rfl dX5_skips_0 ?_
  refine x_get C in_X5_skips_X5 0 rfl rfl 3 (by decide) (List.mem_of_getElem? (i := 1) rfl) rfl (v := .int (iN (Sh.so S0))) rfl dX5_skips_1 ?_
  refine x_if_ne C 24 (by decide) (by omega) dX5_skips_4 (fun c_4 => ?_) (fun c_4 => ?_)
  · refine x_aload_n C 0 rfl rfl dX5_skips_24 ?_
    refine x_get C in_X5_skips_X5 0 rfl rfl 5 (by decide) (List.mem_of_getElem? (i := 2) rfl) rfl (v := .ref (s 1)) rfl dX5_skips_25 ?_
    refine x_iload_n C 1 rfl rfl dX5_skips_28 ?_
    refine x_iaload C (f := Sh.va S0) 1 rfl (by omega) rfl dX5_skips_29 ?_
    have b49 := WFs.va hS (i)
    refine x_aload_n C 0 rfl rfl dX5_skips_30 ?_
    refine x_get C in_X5_skips_X5 0 rfl rfl 3 (by decide) (List.mem_of_getElem? (i := 1) rfl) rfl (v := .int (iN (Sh.so S0))) rfl dX5_skips_31 ?_
    refine x_iconst (v := 0) C dX5_skips_34 ?_
    have LP46 : ∀ (s0_46 : Int), (s0_46 = (if Sh.so S0 = 1 then -32768 else -2147483648)) → Wx X 0 0 (SH X.γ s S0) 46 [(0, .ref (s 0)), (1, .int (iN (i)))] [.int (iN (s0_46)), .int (iN (Sh.va S0 i))] := by
      intro s0_46 es0_46
      refine x_icmp_ne C 53 (by decide) (by omega) dX5_skips_46 (fun c_46 => ?_) (fun c_46 => ?_)
      · refine x_iconst (v := 0) C dX5_skips_53 ?_
        exact hret _ _ _ _ dX5_skips_54 (nar_z (by decide)) ⟨(bz_f (by unfold lsz; omega)).symm, rfl⟩
      · refine x_iconst (v := 0) C dX5_skips_49 ?_
        refine x_goto C 54 (by decide) dX5_skips_50 ?_
        exact hret _ _ _ _ dX5_skips_54 (nar_z (by decide)) ⟨(bz_t (by unfold lsz; omega)).symm, rfl⟩
    refine x_icmp_ne C 44 (by decide) (by omega) dX5_skips_35 (fun c_35 => ?_) (fun c_35 => ?_)
    · refine x_ldc C (-2147483648) (List.mem_of_getElem? (i := 3) rfl) (by decide) dX5_skips_44 ?_
      exact LP46 _ (by omega)
    · refine x_sipush C (-32768) (by decide) dX5_skips_38 ?_
      refine x_goto C 46 (by decide) dX5_skips_41 ?_
      exact LP46 _ (by omega)
  · refine x_aload_n C 0 rfl rfl dX5_skips_7 ?_
    refine x_get C in_X5_skips_X5 0 rfl rfl 5 (by decide) (List.mem_of_getElem? (i := 2) rfl) rfl (v := .ref (s 1)) rfl dX5_skips_8 ?_
    refine x_iload_n C 1 rfl rfl dX5_skips_11 ?_
    refine x_iaload C (f := Sh.va S0) 1 rfl (by omega) rfl dX5_skips_12 ?_
    have b50 := WFs.va hS (i)
    refine x_bipush C (-128) (by decide) dX5_skips_13 ?_
    refine x_icmp_ne C 22 (by decide) (by omega) dX5_skips_15 (fun c_15 => ?_) (fun c_15 => ?_)
    · refine x_iconst (v := 0) C dX5_skips_22 ?_
      exact hret _ _ _ _ dX5_skips_23 (nar_z (by decide)) ⟨(bz_f (by unfold lsz; omega)).symm, rfl⟩
    · refine x_iconst (v := 0) C dX5_skips_18 ?_
      refine x_goto C 23 (by decide) dX5_skips_19 ?_
      exact hret _ _ _ _ dX5_skips_23 (nar_z (by decide)) ⟨(bz_t (by unfold lsz; omega)).symm, rfl⟩
theorem ok_X7_digitsBehind : okY yX7_digitsBehind 1 := by decide +kernel
def rmX7_digitsBehind : Room := { frames := 0, cells := 0, slots := 0, locals := 0 }
set_option maxRecDepth 100000 in
set_option maxHeartbeats 4000000 in
theorem c_X7_digitsBehind (l : Launch) (γ : GX) (w0 : va_W) (c : Int) (h0_ : -2147483648 ≤ c ∧ c < 2147483648) : MI l γ yX7_digitsBehind wsX7_digitsBehind rmX7_digitsBehind [.int (iN (c))] w0 (fun r_ w_ => r_ = (dgz c) ∧ w_ = w0) 0 0 := by
  refine MI.of (cc := cX7_digitsBehind) (maxL := 1) (rt := .int) RX7 rfl (by decide +kernel) rfl (Nat.le_of_ble_eq_true rfl) ?_
  intro X C hγ hl hnm hret
  subst hγ
  show Wx X 0 0 w0 0 [(0, .int (iN (c)))] []
  refine x_iload_n C 0 rfl rfl dX7_digitsBehind_0 ?_
  rcases (show c = 100 ∨ c = 103 ∨ c = 109 ∨ c = 119 ∨ c = 121 ∨ (c ≠ 100 ∧ c ≠ 103 ∧ c ≠ 109 ∧ c ≠ 119 ∧ c ≠ 121) by omega) with s_1 | s_1 | s_1 | s_1 | s_1 | s_1
  · refine x_lookup C 59 (58) (by omega) rfl (by rw [s_1]; rfl) (by decide) dX7_digitsBehind_1 ?_
    refine x_iconst (v := 0) C dX7_digitsBehind_59 ?_
    exact hret _ _ _ _ dX7_digitsBehind_60 rfl ⟨(by unfold dgz; omega), rfl⟩
  · refine x_lookup C 52 (51) (by omega) rfl (by rw [s_1]; rfl) (by decide) dX7_digitsBehind_1 ?_
    refine x_iconst (v := 0) C dX7_digitsBehind_52 ?_
    exact hret _ _ _ _ dX7_digitsBehind_53 rfl ⟨(by unfold dgz; omega), rfl⟩
  · refine x_lookup C 57 (56) (by omega) rfl (by rw [s_1]; rfl) (by decide) dX7_digitsBehind_1 ?_
    refine x_iconst (v := 0) C dX7_digitsBehind_57 ?_
    exact hret _ _ _ _ dX7_digitsBehind_58 rfl ⟨(by unfold dgz; omega), rfl⟩
  · refine x_lookup C 54 (53) (by omega) rfl (by rw [s_1]; rfl) (by decide) dX7_digitsBehind_1 ?_
    refine x_bipush C (7) (by decide) dX7_digitsBehind_54 ?_
    exact hret _ _ _ _ dX7_digitsBehind_56 rfl ⟨(by unfold dgz; omega), rfl⟩
  · refine x_lookup C 59 (58) (by omega) rfl (by rw [s_1]; rfl) (by decide) dX7_digitsBehind_1 ?_
    refine x_iconst (v := 0) C dX7_digitsBehind_59 ?_
    exact hret _ _ _ _ dX7_digitsBehind_60 rfl ⟨(by unfold dgz; omega), rfl⟩
  · refine x_lookup C 61 (60) (by omega) rfl (by rw [Op.lookupswitch.offset_cons, if_neg (by omega)]; rw [Op.lookupswitch.offset_cons, if_neg (by omega)]; rw [Op.lookupswitch.offset_cons, if_neg (by omega)]; rw [Op.lookupswitch.offset_cons, if_neg (by omega)]; rw [Op.lookupswitch.offset_cons, if_neg (by omega)]; rfl) (by decide) dX7_digitsBehind_1 ?_
    refine x_iconst (v := 0) C dX7_digitsBehind_61 ?_
    exact hret _ _ _ _ dX7_digitsBehind_62 rfl ⟨(by unfold dgz; omega), rfl⟩
theorem ok_X7_lengthFrom : okY yX7_lengthFrom 2 := by decide +kernel
def rmX7_lengthFrom : Room := { frames := 2, cells := 0, slots := 0, locals := 43 }
set_option maxRecDepth 100000 in
set_option maxHeartbeats 4000000 in
theorem c_X7_lengthFrom (l : Launch) (γ : GX) (s : Nat → Nat) (S0 : Sh) (hS : WFs S0) (p : Int) (h0_ : -2147483648 ≤ p ∧ p < 2147483648) : MI l γ yX7_lengthFrom wsX7_lengthFrom rmX7_lengthFrom [.ref (s 0), .int (iN (p))] (SH γ s S0) (fun r_ w_ => r_ = dgz (Sh.vz S0 p) + 2 ∧ w_ = SH γ s S0) 0 0 := by
  refine MI.of (cc := cX7_lengthFrom) (maxL := 2) (rt := .int) RX7 rfl (by decide +kernel) rfl (Nat.le_of_ble_eq_true rfl) ?_
  intro X C hγ hl hnm hret
  subst hγ
  have hSz := WFs.sz hS
  have hSo := WFs.so hS
  show Wx X 0 0 (SH X.γ s S0) 0 [(0, .ref (s 0)), (1, .int (iN (p)))] []
  refine x_aload_n C 0 rfl rfl dX7_lengthFrom_0 ?_
  refine x_iload_n C 1 rfl rfl dX7_lengthFrom_1 ?_
  refine x_V_I C (As := [.int (iN (p))]) (rest := []) 1 0 rfl rfl gX7_lengthFrom_X5_valueOrZero rfl (c_X5_valueOrZero _ _ s S0 hS (p) (by omega)) rfl ok_X5_valueOrZero rfl rfl rfl rfl dX7_lengthFrom_2 (fun r w1 hp => ?_)
  obtain ⟨rfl, rfl⟩ := hp
  have b51 := WFs.vz hS (p)
  refine x_S_I C (As := [.int (iN (Sh.vz S0 p))]) (rest := []) 1 gX7_lengthFrom_X7_digitsBehind (c_X7_digitsBehind _ _ (SH X.γ s S0) (Sh.vz S0 p) (by omega)) rfl ok_X7_digitsBehind rfl rfl rfl rfl dX7_lengthFrom_5 (fun r w1 hp => ?_)
  obtain ⟨rfl, rfl⟩ := hp
  have b52 := dgz_b (Sh.vz S0 p)
  refine x_iconst (v := 0) C dX7_lengthFrom_8 ?_
  refine x_iadd C dX7_lengthFrom_9 ?_
  exact hret _ _ _ _ dX7_lengthFrom_10 rfl ⟨rfl, rfl⟩
theorem ok_X7_number : okY yX7_number 3 := by decide +kernel
def rmX7_number : Room := { frames := 2, cells := 0, slots := 0, locals := 43 }
set_option maxRecDepth 100000 in
set_option maxHeartbeats 4000000 in
theorem c_X7_number (l : Launch) (γ : GX) (s : Nat → Nat) (S0 : Sh) (hS : WFs S0) (p : Int) (m : Int) (h0_ : 0 ≤ p ∧ p < 10000) (h1_ : 0 ≤ m ∧ m < 100) : MI l γ yX7_number wsX7_number rmX7_number [.ref (s 0), .int (iN (p)), .int (iN (m))] (SH γ s S0) (fun r_ w_ => r_ = numz (Sh.vz S0) p m.toNat ∧ w_ = SH γ s S0) 0 0 := by
  refine MI.of (cc := cX7_number) (maxL := 5) (rt := .int) RX7 rfl (by decide +kernel) rfl (Nat.le_of_ble_eq_true rfl) ?_
  intro X C hγ hl hnm hret
  subst hγ
  have hSz := WFs.sz hS
  have hSo := WFs.so hS
  show Wx X 0 0 (SH X.γ s S0) 0 [(0, .ref (s 0)), (1, .int (iN (p))), (2, .int (iN (m)))] []
  refine x_iconst (v := 0) C dX7_number_0 ?_
  refine x_istore_n C [(3, .int (iN (0))), (0, .ref (s 0)), (1, .int (iN (p))), (2, .int (iN (m)))] rfl (by decide) rfl dX7_number_1 ?_
  refine x_iconst (v := 0) C dX7_number_2 ?_
  refine x_istore C [(4, .int (iN (0))), (3, .int (iN (0))), (0, .ref (s 0)), (1, .int (iN (p))), (2, .int (iN (m)))] (by decide) rfl dX7_number_3 ?_
  have LP5 : ∀ (f : Nat) (k : Nat) (v4_5 : Int) (v3_5 : Int), (m.toNat - k < f) → (k ≤ m.toNat) → (((k : Int)) = v4_5) → (v3_5 = (numz (Sh.vz S0) p k)) → Wx X 0 0 (SH X.γ s S0) 5 [(4, .int (iN (v4_5))), (3, .int (iN (v3_5))), (0, .ref (s 0)), (1, .int (iN (p))), (2, .int (iN (m)))] [] := by
    intro f
    induction f with
    | zero => intro k v4_5 v3_5 hf; exact absurd hf (Nat.not_lt_zero _)
    | succ f ih5 =>
      intro k v4_5 v3_5 hf hk e4_5 e3_5
      subst e4_5
      refine x_iload C 0 rfl dX7_number_5 ?_
      refine x_iload_n C 4 rfl rfl dX7_number_7 ?_
      refine x_icmp_ge C 34 (by decide) (by omega) dX7_number_8 (fun c_8 => ?_) (fun c_8 => ?_)
      · refine x_iload_n C 1 rfl rfl dX7_number_34 ?_
        exact hret _ _ _ _ dX7_number_35 rfl ⟨(by have hz : k = m.toNat := (by omega); subst hz; exact e3_5), rfl⟩
      · refine x_iload_n C 1 rfl rfl dX7_number_11 ?_
        refine x_bipush C (10) (by decide) dX7_number_12 ?_
        refine x_imul C dX7_number_14 ?_
        refine x_aload_n C 2 rfl rfl dX7_number_15 ?_
        refine x_iload_n C 3 rfl rfl dX7_number_16 ?_
        refine x_iload C 0 rfl dX7_number_17 ?_
        refine x_iadd C dX7_number_19 ?_
        refine x_V_I C (As := [.int (iN (p + (k : Int)))]) (rest := [.int (iN (v3_5 * 10))]) 1 0 rfl rfl gX7_number_X5_valueOrZero rfl (c_X5_valueOrZero _ _ s S0 hS (p + (k : Int)) (by omega)) rfl ok_X5_valueOrZero rfl rfl rfl rfl dX7_number_20 (fun r w1 hp => ?_)
        obtain ⟨rfl, rfl⟩ := hp
        have b53 := WFs.vz hS (p + (k : Int))
        refine x_iadd C dX7_number_23 ?_
        refine x_bipush C (48) (by decide) dX7_number_24 ?_
        refine x_isub C dX7_number_26 ?_
        refine x_istore_n C [(3, .int (iN (((v3_5 * 10) + (Sh.vz S0 (p + (k : Int)))) - 48))), (4, .int (iN ((k : Int)))), (0, .ref (s 0)), (1, .int (iN (p))), (2, .int (iN (m)))] rfl (by decide) rfl dX7_number_27 ?_
        refine x_iinc C 1 [(4, .int (iN ((k : Int) + 1))), (3, .int (iN (((v3_5 * 10) + (Sh.vz S0 (p + (k : Int)))) - 48))), (0, .ref (s 0)), (1, .int (iN (p))), (2, .int (iN (m)))] rfl rfl (by decide) rfl dX7_number_28 ?_
        refine x_goto C 5 (by decide) dX7_number_31 ?_
        exact ih5 (k + 1) _ _ (by omega) (by omega) (by omega) (by simp only [numz]; rw [e3_5])
  exact LP5 ((m.toNat - (0)) + 1) (0) _ _ (by omega) (by omega) (by omega) (rfl)
theorem in_X7_firstBadPlace_X5 : ∀ w ∈ u_ws RX5 TX5 6, w ∈ wsX7_firstBadPlace := by decide +kernel
theorem ok_X7_firstBadPlace : okY yX7_firstBadPlace 1 := by decide +kernel
def rmX7_firstBadPlace : Room := { frames := 2, cells := 0, slots := 0, locals := 43 }
set_option maxRecDepth 100000 in
set_option maxHeartbeats 4000000 in
theorem c_X7_firstBadPlace (l : Launch) (γ : GX) (s : Nat → Nat) (S0 : Sh) (hS : WFs S0) : MI l γ yX7_firstBadPlace wsX7_firstBadPlace rmX7_firstBadPlace [.ref (s 0)] (SH γ s S0) (fun r_ w_ => r_ = fbad (Sh.vz S0) (Sh.sz S0) 101 0 ∧ w_ = SH γ s S0) 0 0 := by
  refine MI.of (cc := cX7_firstBadPlace) (maxL := 4) (rt := .int) RX7 rfl (by decide +kernel) rfl (Nat.le_of_ble_eq_true rfl) ?_
  intro X C hγ hl hnm hret
  subst hγ
  have hSz := WFs.sz hS
  have hSo := WFs.so hS
  show Wx X 0 0 (SH X.γ s S0) 0 [(0, .ref (s 0))] []
  refine x_iconst (v := 0) C dX7_firstBadPlace_0 ?_
  refine x_istore_n C [(1, .int (iN (0))), (0, .ref (s 0))] rfl (by decide) rfl dX7_firstBadPlace_1 ?_
  have LP2 : ∀ (f : Nat) (k : Nat) (p : Int) (v1_2 : Int), (k < f) → (0 ≤ p ∧ p ≤ 100) → (100 - p < (k : Int)) → (hid (fbad (Sh.vz S0) (Sh.sz S0) 101 0 = fbad (Sh.vz S0) (Sh.sz S0) k p)) → ((p) = v1_2) → Wx X 0 0 (SH X.γ s S0) 2 [(1, .int (iN (v1_2))), (0, .ref (s 0))] [] := by
    intro f
    induction f with
    | zero => intro k p v1_2 hf; exact absurd hf (Nat.not_lt_zero _)
    | succ f ih2 =>
      intro k p v1_2 hf hp hk hf2 e1_2
      subst e1_2
      refine x_aload_n C 1 rfl rfl dX7_firstBadPlace_2 ?_
      refine x_iload_n C 0 rfl rfl dX7_firstBadPlace_3 ?_
      refine x_V_I C (As := [.int (iN (p))]) (rest := []) 1 0 rfl rfl gX7_firstBadPlace_X5_valueOrZero rfl (c_X5_valueOrZero _ _ s S0 hS (p) (by omega)) rfl ok_X5_valueOrZero rfl rfl rfl rfl dX7_firstBadPlace_4 (fun r w1 hp => ?_)
      obtain ⟨rfl, rfl⟩ := hp
      have b54 := WFs.vz hS (p)
      refine x_S_I C (As := [.int (iN (Sh.vz S0 p))]) (rest := []) 1 gX7_firstBadPlace_X7_digitsBehind (c_X7_digitsBehind _ _ (SH X.γ s S0) (Sh.vz S0 p) (by omega)) rfl ok_X7_digitsBehind rfl rfl rfl rfl dX7_firstBadPlace_7 (fun r w1 hp => ?_)
      obtain ⟨rfl, rfl⟩ := hp
      have b55 := dgz_b (Sh.vz S0 p)
      refine x_istore_n C [(2, .int (iN (dgz (Sh.vz S0 p)))), (1, .int (iN (p))), (0, .ref (s 0))] rfl (by decide) rfl dX7_firstBadPlace_10 ?_
      refine x_iload_n C 0 rfl rfl dX7_firstBadPlace_11 ?_
      refine x_if_ge C 17 (by decide) (by omega) dX7_firstBadPlace_12 (fun c_12 => ?_) (fun c_12 => ?_)
      · refine x_iinc C 1 [(1, .int (iN (p + 1))), (2, .int (iN (dgz (Sh.vz S0 p)))), (0, .ref (s 0))] rfl rfl (by decide) rfl dX7_firstBadPlace_17 ?_
        refine x_iload_n C 0 rfl rfl dX7_firstBadPlace_20 ?_
        refine x_iload_n C 1 rfl rfl dX7_firstBadPlace_21 ?_
        refine x_iadd C dX7_firstBadPlace_22 ?_
        refine x_istore_n C [(3, .int (iN ((p + 1) + (dgz (Sh.vz S0 p))))), (1, .int (iN (p + 1))), (2, .int (iN (dgz (Sh.vz S0 p)))), (0, .ref (s 0))] rfl (by decide) rfl dX7_firstBadPlace_23 ?_
        have LP24 : ∀ (f : Nat) (j : Nat) (v1_24 : Int), ((dgz (Sh.vz S0 p)).toNat - j < f) → (j ≤ (dgz (Sh.vz S0 p)).toNat) → (hid (ldz (Sh.vz S0) (p + 1) (dgz (Sh.vz S0 p)).toNat = j + ldz (Sh.vz S0) (p + 1 + (j : Int)) ((dgz (Sh.vz S0 p)).toNat - j))) → ((p + 1 + (j : Int)) = v1_24) → Wx X 0 0 (SH X.γ s S0) 24 [(3, .int (iN ((p + 1) + (dgz (Sh.vz S0 p))))), (1, .int (iN (v1_24))), (2, .int (iN (dgz (Sh.vz S0 p)))), (0, .ref (s 0))] [] := by
          intro f
          induction f with
          | zero => intro j v1_24 hf; exact absurd hf (Nat.not_lt_zero _)
          | succ f ih24 =>
            intro j v1_24 hf hj hl2 e1_24
            subst e1_24
            refine x_iload_n C 1 rfl rfl dX7_firstBadPlace_24 ?_
            refine x_iload_n C 0 rfl rfl dX7_firstBadPlace_25 ?_
            refine x_icmp_ge C 52 (by decide) (by omega) dX7_firstBadPlace_26 (fun c_26 => ?_) (fun c_26 => ?_)
            · refine x_aload_n C 3 rfl rfl dX7_firstBadPlace_52 ?_
              refine x_iload_n C 1 rfl rfl dX7_firstBadPlace_53 ?_
              refine x_V_I C (As := [.int (iN (p + 1 + (j : Int)))]) (rest := []) 1 0 rfl rfl gX7_firstBadPlace_X5_valueOrZero rfl (c_X5_valueOrZero _ _ s S0 hS (p + 1 + (j : Int)) (by omega)) rfl ok_X5_valueOrZero rfl rfl rfl rfl dX7_firstBadPlace_54 (fun r w1 hp => ?_)
              obtain ⟨rfl, rfl⟩ := hp
              have b56 := WFs.vz hS (p + 1 + (j : Int))
              refine x_bipush C (59) (by decide) dX7_firstBadPlace_57 ?_
              refine x_icmp_eq C 64 (by decide) (by omega) dX7_firstBadPlace_59 (fun c_59 => ?_) (fun c_59 => ?_)
              · have hsb : sbad (Sh.vz S0) p = -1 := by
                  have hl2 : _ = _ := hl2
                  unfold sbad
                  have hj2 : j = (dgz (Sh.vz S0 p)).toNat := by omega
                  rw [if_neg (by omega), if_neg (by rw [hl2, hj2]; simp [ldz])]
                  rw [if_neg (fun z => z (by rw [← c_59]; congr 1; omega))]
                refine x_iinc C 1 [(1, .int (iN ((p + 1 + (j : Int)) + 1))), (3, .int (iN ((p + 1) + (dgz (Sh.vz S0 p))))), (2, .int (iN (dgz (Sh.vz S0 p)))), (0, .ref (s 0))] rfl rfl (by decide) rfl dX7_firstBadPlace_64 ?_
                refine x_iload_n C 0 rfl rfl dX7_firstBadPlace_67 ?_
                refine x_aload_n C 3 rfl rfl dX7_firstBadPlace_68 ?_
                refine x_get C in_X7_firstBadPlace_X5 0 rfl rfl 4 (by decide) (List.mem_of_getElem? (i := 1) rfl) rfl (v := .int (iN (Sh.sz S0))) rfl dX7_firstBadPlace_69 ?_
                refine x_icmp_lt C 2 (by decide) (by omega) dX7_firstBadPlace_72 (fun c_72 => ?_) (fun c_72 => ?_)
                · refine Wx.subL [0, 3] rfl ?_
                  exact ih2 (k - 1) (p + dgz (Sh.vz S0 p) + 2) _ (by omega) (by omega) (by omega) (by unfold hid; have hf2 : _ = _ := hf2; rw [hf2]; obtain ⟨q, rfl⟩ : ∃ q, k = q + 1 := ⟨k - 1, by omega⟩; simp only [fbad]; rw [if_neg (by rw [hsb]; omega), if_pos (by omega)]; rfl) (by omega)
                · refine x_iconst (v := 0) C dX7_firstBadPlace_75 ?_
                  exact hret _ _ _ _ dX7_firstBadPlace_76 rfl ⟨(by have hf2 : _ = _ := hf2; rw [hf2]; obtain ⟨q, rfl⟩ : ∃ q, k = q + 1 := ⟨k - 1, by omega⟩; simp only [fbad]; rw [if_neg (by rw [hsb]; omega), if_neg (by omega)]), rfl⟩
              · refine x_iload_n C 1 rfl rfl dX7_firstBadPlace_62 ?_
                exact hret _ _ _ _ dX7_firstBadPlace_63 rfl ⟨(by have hf2 : _ = _ := hf2; rw [hf2]; obtain ⟨q, rfl⟩ : ∃ q, k = q + 1 := ⟨k - 1, by omega⟩; have hl2 : _ = _ := hl2; have hj2 : j = (dgz (Sh.vz S0 p)).toNat := (by omega); exact (fbad_bad q (by unfold sbad; rw [if_neg (by omega), if_neg (by rw [hl2, hj2]; simp [ldz]), if_pos (fun z => c_59 (by rw [← z]; congr 1; omega))]; omega) (by omega)).symm), rfl⟩
            · refine x_aload_n C 3 rfl rfl dX7_firstBadPlace_29 ?_
              refine x_iload_n C 1 rfl rfl dX7_firstBadPlace_30 ?_
              refine x_V_I C (As := [.int (iN (p + 1 + (j : Int)))]) (rest := []) 1 0 rfl rfl gX7_firstBadPlace_X5_valueOrZero rfl (c_X5_valueOrZero _ _ s S0 hS (p + 1 + (j : Int)) (by omega)) rfl ok_X5_valueOrZero rfl rfl rfl rfl dX7_firstBadPlace_31 (fun r w1 hp => ?_)
              obtain ⟨rfl, rfl⟩ := hp
              have b57 := WFs.vz hS (p + 1 + (j : Int))
              refine x_bipush C (48) (by decide) dX7_firstBadPlace_34 ?_
              refine x_bipush C (57) (by decide) dX7_firstBadPlace_36 ?_
              refine x_N_I C (As := [.int (iN (Sh.vz S0 (p + 1 + (j : Int)))), .int (iN (48)), .int (iN (57))]) (rest := []) (host := RX11) 3 gX7_firstBadPlace_X11_isWithin_n18 (List.mem_of_getElem? (i := 1) rfl) (List.mem_of_getElem? (i := 10) rfl) (List.mem_of_getElem? (i := 9) rfl) (c_X11_isWithin _ _ (SH X.γ s S0) (Sh.vz S0 (p + 1 + (j : Int))) (48) (57) (by omega) (by omega) (by omega)) rfl ok_X11_isWithin rfl rfl rfl rfl dX7_firstBadPlace_38 (fun r w1 hp => ?_)
              obtain ⟨rfl, rfl⟩ := hp
              refine x_ifne_bz C 46 (by decide) dX7_firstBadPlace_41 (fun c_41 => ?_) (fun c_41 => ?_)
              · refine x_iinc C 1 [(1, .int (iN ((p + 1 + (j : Int)) + 1))), (3, .int (iN ((p + 1) + (dgz (Sh.vz S0 p))))), (2, .int (iN (dgz (Sh.vz S0 p)))), (0, .ref (s 0))] rfl rfl (by decide) rfl dX7_firstBadPlace_46 ?_
                refine x_goto C 24 (by decide) dX7_firstBadPlace_49 ?_
                refine Wx.subL [1, 0, 2, 3] rfl ?_
                exact ih24 (j + 1) _ (by omega) (by omega) (by unfold hid; have hl2 : _ = _ := hl2; rw [hl2]; rw [show (dgz (Sh.vz S0 p)).toNat - j = ((dgz (Sh.vz S0 p)).toNat - (j + 1)) + 1 by omega]; simp only [ldz]; rw [if_pos c_41, show p + 1 + (j : Int) + 1 = p + 1 + ((j + 1 : Nat) : Int) by omega]; omega) (by omega)
              · refine x_iload_n C 1 rfl rfl dX7_firstBadPlace_44 ?_
                exact hret _ _ _ _ dX7_firstBadPlace_45 rfl ⟨(by have hf2 : _ = _ := hf2; rw [hf2]; obtain ⟨q, rfl⟩ : ∃ q, k = q + 1 := ⟨k - 1, by omega⟩; have hl2 : _ = _ := hl2; have h0 : ldz (Sh.vz S0) (p + 1 + (j : Int)) ((dgz (Sh.vz S0 p)).toNat - j) = 0 := (by rw [show (dgz (Sh.vz S0 p)).toNat - j = ((dgz (Sh.vz S0 p)).toNat - (j + 1)) + 1 by omega]; simp only [ldz]; rw [if_neg c_41]); exact (fbad_bad q (by unfold sbad; rw [if_neg (by omega), if_pos (by rw [hl2, h0]; omega), hl2, h0]; omega) (by omega)).symm), rfl⟩
        exact LP24 (((dgz (Sh.vz S0 p)).toNat - (0)) + 1) (0) _ (by omega) (by omega) (by unfold hid; simp) (by omega)
      · refine x_iload_n C 1 rfl rfl dX7_firstBadPlace_15 ?_
        exact hret _ _ _ _ dX7_firstBadPlace_16 rfl ⟨(by have hf2 : _ = _ := hf2; rw [hf2]; obtain ⟨q, rfl⟩ : ∃ q, k = q + 1 := ⟨k - 1, by omega⟩; exact (fbad_bad q (by unfold sbad; rw [if_pos c_12]) (by omega)).symm), rfl⟩
  exact LP2 (((101)) + 1) (101) (0) _ (by omega) (by omega) (by omega) (rfl) (by omega)
end HSHE
