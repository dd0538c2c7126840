section HSTA
theorem ok_X11_isWithin : okY yX11_isWithin 3 := by decide +kernel
def rmX11_isWithin : Room := { frames := 0, cells := 0, slots := 0, locals := 0 }
set_option maxRecDepth 100000 in
set_option maxHeartbeats 4000000 in
theorem c_X11_isWithin (l : Launch) (γ : GX) (w0 : va_W) (v : Int) (lo : Int) (hi : Int) (h0_ : -2147483648 ≤ v ∧ v < 2147483648) (h1_ : -2147483648 ≤ lo ∧ lo < 2147483648) (h2_ : -2147483648 ≤ hi ∧ hi < 2147483648) : MI l γ yX11_isWithin wsX11_isWithin rmX11_isWithin [.int (iN (v)), .int (iN (lo)), .int (iN (hi))] w0 (fun r_ w_ => r_ = bz (lo ≤ v ∧ v ≤ hi) ∧ w_ = w0) 0 0 := by
  refine MI.of (cc := cX11_isWithin) (maxL := 3) (rt := .boolean) RX11 rfl (by decide +kernel) rfl (Nat.le_of_ble_eq_true rfl) ?_
  intro X C hγ hl hnm hret
  subst hγ
  show Wx X 0 0 w0 0 [(0, .int (iN (v))), (1, .int (iN (lo))), (2, .int (iN (hi)))] []
  refine x_iload_n C 0 rfl rfl dX11_isWithin_0 ?_
  refine x_iload_n C 1 rfl rfl dX11_isWithin_1 ?_
  refine x_icmp_lt C 14 (by decide) (by omega) dX11_isWithin_2 (fun c_2 => ?_) (fun c_2 => ?_)
  · refine x_iconst (v := 0) C dX11_isWithin_14 ?_
    exact hret _ _ _ _ dX11_isWithin_15 (nar_z (by decide)) ⟨(bz_f (by omega)).symm, rfl⟩
  · refine x_iload_n C 0 rfl rfl dX11_isWithin_5 ?_
    refine x_iload_n C 2 rfl rfl dX11_isWithin_6 ?_
    refine x_icmp_gt C 14 (by decide) (by omega) dX11_isWithin_7 (fun c_7 => ?_) (fun c_7 => ?_)
    · refine x_iconst (v := 0) C dX11_isWithin_14 ?_
      exact hret _ _ _ _ dX11_isWithin_15 (nar_z (by decide)) ⟨(bz_f (by omega)).symm, rfl⟩
    · refine x_iconst (v := 0) C dX11_isWithin_10 ?_
      refine x_goto C 15 (by decide) dX11_isWithin_11 ?_
      exact hret _ _ _ _ dX11_isWithin_15 (nar_z (by decide)) ⟨(bz_t (by omega)).symm, rfl⟩
theorem ok_X11_isShelf : okY yX11_isShelf 1 := by decide +kernel
def rmX11_isShelf : Room := { frames := 1, cells := 0, slots := 0, locals := 22 }
set_option maxRecDepth 100000 in
set_option maxHeartbeats 4000000 in
theorem c_X11_isShelf (l : Launch) (γ : GX) (w0 : va_W) (d : Int) (h0_ : -2147483648 ≤ d ∧ d < 2147483648) : MI l γ yX11_isShelf wsX11_isShelf rmX11_isShelf [.int (iN (d))] w0 (fun r_ w_ => r_ = bz (0 ≤ d ∧ d ≤ 7) ∧ w_ = w0) 0 0 := by
  refine MI.of (cc := cX11_isShelf) (maxL := 1) (rt := .boolean) RX11 rfl (by decide +kernel) rfl (Nat.le_of_ble_eq_true rfl) ?_
  intro X C hγ hl hnm hret
  subst hγ
  show Wx X 0 0 w0 0 [(0, .int (iN (d)))] []
  refine x_iload_n C 0 rfl rfl dX11_isShelf_0 ?_
  refine x_iconst (v := 0) C dX11_isShelf_1 ?_
  refine x_bipush C (7) (by decide) dX11_isShelf_2 ?_
  refine x_S_I C (As := [.int (iN (d)), .int (iN (0)), .int (iN (7))]) (rest := []) 3 gX11_isShelf_X11_isWithin (c_X11_isWithin _ _ w0 (d) (0) (7) (by omega) (by omega) (by omega)) rfl ok_X11_isWithin rfl rfl rfl rfl dX11_isShelf_4 (fun r w1 hp => ?_)
  obtain ⟨rfl, rfl⟩ := hp
  exact hret _ _ _ _ dX11_isShelf_7 (nar_z (bz_01 _)) ⟨bz_iff (by omega), rfl⟩
theorem ok_X11_isCell : okY yX11_isCell 1 := by decide +kernel
def rmX11_isCell : Room := { frames := 1, cells := 0, slots := 0, locals := 22 }
set_option maxRecDepth 100000 in
set_option maxHeartbeats 4000000 in
theorem c_X11_isCell (l : Launch) (γ : GX) (w0 : va_W) (cell : Int) (h0_ : -2147483648 ≤ cell ∧ cell < 2147483648) : MI l γ yX11_isCell wsX11_isCell rmX11_isCell [.int (iN (cell))] w0 (fun r_ w_ => r_ = bz (0 ≤ cell ∧ cell ≤ 14) ∧ w_ = w0) 0 0 := by
  refine MI.of (cc := cX11_isCell) (maxL := 1) (rt := .boolean) RX11 rfl (by decide +kernel) rfl (Nat.le_of_ble_eq_true rfl) ?_
  intro X C hγ hl hnm hret
  subst hγ
  show Wx X 0 0 w0 0 [(0, .int (iN (cell)))] []
  refine x_iload_n C 0 rfl rfl dX11_isCell_0 ?_
  refine x_iconst (v := 0) C dX11_isCell_1 ?_
  refine x_bipush C (14) (by decide) dX11_isCell_2 ?_
  refine x_S_I C (As := [.int (iN (cell)), .int (iN (0)), .int (iN (14))]) (rest := []) 3 gX11_isCell_X11_isWithin (c_X11_isWithin _ _ w0 (cell) (0) (14) (by omega) (by omega) (by omega)) rfl ok_X11_isWithin rfl rfl rfl rfl dX11_isCell_4 (fun r w1 hp => ?_)
  obtain ⟨rfl, rfl⟩ := hp
  exact hret _ _ _ _ dX11_isCell_7 (nar_z (bz_01 _)) ⟨bz_iff (by omega), rfl⟩
theorem ok_X11_isCellOrAll : okY yX11_isCellOrAll 1 := by decide +kernel
def rmX11_isCellOrAll : Room := { frames := 1, cells := 0, slots := 0, locals := 22 }
set_option maxRecDepth 100000 in
set_option maxHeartbeats 4000000 in
theorem c_X11_isCellOrAll (l : Launch) (γ : GX) (w0 : va_W) (cell : Int) (h0_ : -2147483648 ≤ cell ∧ cell < 2147483648) : MI l γ yX11_isCellOrAll wsX11_isCellOrAll rmX11_isCellOrAll [.int (iN (cell))] w0 (fun r_ w_ => r_ = bz (-1 ≤ cell ∧ cell ≤ 14) ∧ w_ = w0) 0 0 := by
  refine MI.of (cc := cX11_isCellOrAll) (maxL := 1) (rt := .boolean) RX11 rfl (by decide +kernel) rfl (Nat.le_of_ble_eq_true rfl) ?_
  intro X C hγ hl hnm hret
  subst hγ
  show Wx X 0 0 w0 0 [(0, .int (iN (cell)))] []
  refine x_iload_n C 0 rfl rfl dX11_isCellOrAll_0 ?_
  refine x_iconst (v := 0) C dX11_isCellOrAll_1 ?_
  refine x_bipush C (14) (by decide) dX11_isCellOrAll_2 ?_
  refine x_S_I C (As := [.int (iN (cell)), .int (iN (-1)), .int (iN (14))]) (rest := []) 3 gX11_isCellOrAll_X11_isWithin (c_X11_isWithin _ _ w0 (cell) (-1) (14) (by omega) (by omega) (by omega)) rfl ok_X11_isWithin rfl rfl rfl rfl dX11_isCellOrAll_4 (fun r w1 hp => ?_)
  obtain ⟨rfl, rfl⟩ := hp
  exact hret _ _ _ _ dX11_isCellOrAll_7 (nar_z (bz_01 _)) ⟨bz_iff (by omega), rfl⟩
theorem ok_X11_isIn : okY yX11_isIn 2 := by decide +kernel
def rmX11_isIn : Room := { frames := 0, cells := 0, slots := 0, locals := 0 }
set_option maxRecDepth 100000 in
set_option maxHeartbeats 4000000 in
theorem c_X11_isIn (l : Launch) (γ : GX) (w0 : va_W) (bits : Int) (w : Int) (h0_ : 0 ≤ bits ∧ bits < 2147483648) (h1_ : 0 ≤ w ∧ w < 32) : MI l γ yX11_isIn wsX11_isIn rmX11_isIn [.int (iN (bits)), .int (iN (w))] w0 (fun r_ w_ => r_ = bz (btz bits w) ∧ w_ = w0) 0 0 := by
  refine MI.of (cc := cX11_isIn) (maxL := 2) (rt := .boolean) RX11 rfl (by decide +kernel) rfl (Nat.le_of_ble_eq_true rfl) ?_
  intro X C hγ hl hnm hret
  subst hγ
  show Wx X 0 0 w0 0 [(0, .int (iN (bits))), (1, .int (iN (w)))] []
  refine x_iload_n C 0 rfl rfl dX11_isIn_0 ?_
  refine x_iload_n C 1 rfl rfl dX11_isIn_1 ?_
  refine x_ishr C (bits / 2 ^ (w).toNat) (iN_shr (by omega) (by omega)) dX11_isIn_2 ?_
  have hq1 : 0 ≤ bits / 2 ^ w.toNat := Int.ediv_nonneg h0_.1 (Int.le_of_lt (Int.pow_pos (by decide)))
  have hq2 : bits / 2 ^ w.toNat ≤ bits := Int.ediv_le_self _ h0_.1
  refine x_iconst (v := 0) C dX11_isIn_3 ?_
  refine x_iand C ((bits / 2 ^ (w).toNat) % 2) (iN_and1 (by omega)) dX11_isIn_4 ?_
  refine x_iconst (v := 0) C dX11_isIn_5 ?_
  refine x_icmp_ne C 13 (by decide) (by omega) dX11_isIn_6 (fun c_6 => ?_) (fun c_6 => ?_)
  · refine x_iconst (v := 0) C dX11_isIn_13 ?_
    exact hret _ _ _ _ dX11_isIn_14 (nar_z (by decide)) ⟨(bz_f (by omega)).symm, rfl⟩
  · refine x_iconst (v := 0) C dX11_isIn_9 ?_
    refine x_goto C 14 (by decide) dX11_isIn_10 ?_
    exact hret _ _ _ _ dX11_isIn_14 (nar_z (by decide)) ⟨(bz_t (by omega)).symm, rfl⟩
theorem ok_X11_wayAsTold : okY yX11_wayAsTold 1 := by decide +kernel
def rmX11_wayAsTold : Room := { frames := 0, cells := 0, slots := 0, locals := 0 }
set_option maxRecDepth 100000 in
set_option maxHeartbeats 4000000 in
theorem c_X11_wayAsTold (l : Launch) (γ : GX) (w0 : va_W) (way : Int) (h0_ : -2147483648 ≤ way ∧ way < 2147483648) : MI l γ yX11_wayAsTold wsX11_wayAsTold rmX11_wayAsTold [.int (iN (way))] w0 (fun r_ w_ => r_ = (if way = 0 then 0 else if way < 0 then 1 else 2) ∧ w_ = w0) 0 0 := by
  refine MI.of (cc := cX11_wayAsTold) (maxL := 1) (rt := .int) RX11 rfl (by decide +kernel) rfl (Nat.le_of_ble_eq_true rfl) ?_
  intro X C hγ hl hnm hret
  subst hγ
  show Wx X 0 0 w0 0 [(0, .int (iN (way)))] []
  refine x_iload_n C 0 rfl rfl dX11_wayAsTold_0 ?_
  refine x_if_ne C 6 (by decide) (by omega) dX11_wayAsTold_1 (fun c_1 => ?_) (fun c_1 => ?_)
  · refine x_iload_n C 0 rfl rfl dX11_wayAsTold_6 ?_
    refine x_if_ge C 14 (by decide) (by omega) dX11_wayAsTold_7 (fun c_7 => ?_) (fun c_7 => ?_)
    · refine x_iconst (v := 0) C dX11_wayAsTold_14 ?_
      exact hret _ _ _ _ dX11_wayAsTold_15 rfl ⟨by omega, rfl⟩
    · refine x_iconst (v := 0) C dX11_wayAsTold_10 ?_
      refine x_goto C 15 (by decide) dX11_wayAsTold_11 ?_
      exact hret _ _ _ _ dX11_wayAsTold_15 rfl ⟨by omega, rfl⟩
  · refine x_iconst (v := 0) C dX11_wayAsTold_4 ?_
    exact hret _ _ _ _ dX11_wayAsTold_5 rfl ⟨by omega, rfl⟩
end HSTA
