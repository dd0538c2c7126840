section HKIN
theorem ok_X9_presses : okY yX9_presses 2 := by decide +kernel
def rmX9_presses : Room := { frames := 0, cells := 0, slots := 0, locals := 0 }
set_option maxRecDepth 100000 in
set_option maxHeartbeats 4000000 in
theorem c_X9_presses (l : Launch) (γ : GX) (w0 : va_W) {q0 b ci N : Nat} {Cn : String} {T : u_T} {fs : List Value} (he : w0[q0]? = some (b, ob ci fs)) (hc : vwCl[ci]? = some (Cn, T, N)) (fg : Int) (ag : Int) (h0_ : 0 ≤ fg ∧ fg ≤ 9) (h1_ : 0 ≤ ag ∧ ag ≤ 120) : MI l γ yX9_presses wsX9_presses rmX9_presses [.ref (b), .int (iN (fg)), .int (iN (ag))] w0 (fun r_ w_ => r_ = (prW ag) ∧ w_ = w0) 0 0 := by
  refine MI.of (cc := cX9_presses) (maxL := 3) (rt := .int) RX9 rfl (by decide +kernel) rfl (Nat.le_of_ble_eq_true rfl) ?_
  intro X C hγ hl hnm hret
  subst hγ
  show Wx X 0 0 w0 0 [(0, .ref (b)), (1, .int (iN (fg))), (2, .int (iN (ag)))] []
  refine x_iload_n C 2 rfl rfl dX9_presses_0 ?_
  refine x_bipush C (60) (by decide) dX9_presses_1 ?_
  refine x_icmp_ge C 10 (by decide) (by omega) dX9_presses_3 (fun c_3 => ?_) (fun c_3 => ?_)
  · refine x_iload_n C 2 rfl rfl dX9_presses_10 ?_
    refine x_bipush C (60) (by decide) dX9_presses_11 ?_
    refine x_isub C dX9_presses_13 ?_
    refine x_bipush C (10) (by decide) dX9_presses_14 ?_
    refine x_idiv C (by omega) dX9_presses_16 ?_
    exact hret _ _ _ _ dX9_presses_17 rfl ⟨(by unfold prW; omega), rfl⟩
  · refine x_iconst (v := 0) C dX9_presses_6 ?_
    refine x_goto C 17 (by decide) dX9_presses_7 ?_
    exact hret _ _ _ _ dX9_presses_17 rfl ⟨(by unfold prW; omega), rfl⟩
theorem ok_X9_spreads : okY yX9_spreads 0 := by decide +kernel
def rmX9_spreads : Room := { frames := 0, cells := 0, slots := 0, locals := 0 }
set_option maxRecDepth 100000 in
set_option maxHeartbeats 4000000 in
theorem c_X9_spreads (l : Launch) (γ : GX) (w0 : va_W) {q0 b ci N : Nat} {Cn : String} {T : u_T} {fs : List Value} (he : w0[q0]? = some (b, ob ci fs)) (hc : vwCl[ci]? = some (Cn, T, N)) : MI l γ yX9_spreads wsX9_spreads rmX9_spreads [.ref (b)] w0 (fun r_ w_ => r_ = (0) ∧ w_ = w0) 0 0 := by
  refine MI.of (cc := cX9_spreads) (maxL := 1) (rt := .int) RX9 rfl (by decide +kernel) rfl (Nat.le_of_ble_eq_true rfl) ?_
  intro X C hγ hl hnm hret
  subst hγ
  show Wx X 0 0 w0 0 [(0, .ref (b))] []
  refine x_iconst (v := 0) C dX9_spreads_0 ?_
  exact hret _ _ _ _ dX9_spreads_1 rfl ⟨rfl, rfl⟩
theorem ok_X4_spreads : okY yX4_spreads 0 := by decide +kernel
def rmX4_spreads : Room := { frames := 0, cells := 0, slots := 0, locals := 0 }
set_option maxRecDepth 100000 in
set_option maxHeartbeats 4000000 in
theorem c_X4_spreads (l : Launch) (γ : GX) (w0 : va_W) {q0 b ci N : Nat} {Cn : String} {T : u_T} {fs : List Value} (he : w0[q0]? = some (b, ob ci fs)) (hc : vwCl[ci]? = some (Cn, T, N)) : MI l γ yX4_spreads wsX4_spreads rmX4_spreads [.ref (b)] w0 (fun r_ w_ => r_ = (1) ∧ w_ = w0) 0 0 := by
  refine MI.of (cc := cX4_spreads) (maxL := 1) (rt := .int) RX4 rfl (by decide +kernel) rfl (Nat.le_of_ble_eq_true rfl) ?_
  intro X C hγ hl hnm hret
  subst hγ
  show Wx X 0 0 w0 0 [(0, .ref (b))] []
  refine x_iconst (v := 0) C dX4_spreads_0 ?_
  exact hret _ _ _ _ dX4_spreads_1 rfl ⟨rfl, rfl⟩
theorem ok_X2_spreads : okY yX2_spreads 0 := by decide +kernel
def rmX2_spreads : Room := { frames := 0, cells := 0, slots := 0, locals := 0 }
set_option maxRecDepth 100000 in
set_option maxHeartbeats 4000000 in
theorem c_X2_spreads (l : Launch) (γ : GX) (w0 : va_W) {q0 b ci N : Nat} {Cn : String} {T : u_T} {fs : List Value} (he : w0[q0]? = some (b, ob ci fs)) (hc : vwCl[ci]? = some (Cn, T, N)) : MI l γ yX2_spreads wsX2_spreads rmX2_spreads [.ref (b)] w0 (fun r_ w_ => r_ = (2) ∧ w_ = w0) 0 0 := by
  refine MI.of (cc := cX2_spreads) (maxL := 1) (rt := .int) RX2 rfl (by decide +kernel) rfl (Nat.le_of_ble_eq_true rfl) ?_
  intro X C hγ hl hnm hret
  subst hγ
  show Wx X 0 0 w0 0 [(0, .ref (b))] []
  refine x_iconst (v := 0) C dX2_spreads_0 ?_
  exact hret _ _ _ _ dX2_spreads_1 rfl ⟨rfl, rfl⟩
theorem ok_X0_spreads : okY yX0_spreads 0 := by decide +kernel
def rmX0_spreads : Room := { frames := 0, cells := 0, slots := 0, locals := 0 }
set_option maxRecDepth 100000 in
set_option maxHeartbeats 4000000 in
theorem c_X0_spreads (l : Launch) (γ : GX) (w0 : va_W) {q0 b ci N : Nat} {Cn : String} {T : u_T} {fs : List Value} (he : w0[q0]? = some (b, ob ci fs)) (hc : vwCl[ci]? = some (Cn, T, N)) : MI l γ yX0_spreads wsX0_spreads rmX0_spreads [.ref (b)] w0 (fun r_ w_ => r_ = (2) ∧ w_ = w0) 0 0 := by
  refine MI.of (cc := cX0_spreads) (maxL := 1) (rt := .int) RX0 rfl (by decide +kernel) rfl (Nat.le_of_ble_eq_true rfl) ?_
  intro X C hγ hl hnm hret
  subst hγ
  show Wx X 0 0 w0 0 [(0, .ref (b))] []
  refine x_iconst (v := 0) C dX0_spreads_0 ?_
  exact hret _ _ _ _ dX0_spreads_1 rfl ⟨rfl, rfl⟩
theorem ok_X9_strides : okY yX9_strides 1 := by decide +kernel
def rmX9_strides : Room := { frames := 0, cells := 0, slots := 0, locals := 0 }
set_option maxRecDepth 100000 in
set_option maxHeartbeats 4000000 in
theorem c_X9_strides (l : Launch) (γ : GX) (w0 : va_W) {q0 b ci N : Nat} {Cn : String} {T : u_T} {fs : List Value} (he : w0[q0]? = some (b, ob ci fs)) (hc : vwCl[ci]? = some (Cn, T, N)) (fg : Int) (h0_ : 0 ≤ fg ∧ fg ≤ 9) : MI l γ yX9_strides wsX9_strides rmX9_strides [.ref (b), .int (iN (fg))] w0 (fun r_ w_ => r_ = (2) ∧ w_ = w0) 0 0 := by
  refine MI.of (cc := cX9_strides) (maxL := 2) (rt := .int) RX9 rfl (by decide +kernel) rfl (Nat.le_of_ble_eq_true rfl) ?_
  intro X C hγ hl hnm hret
  subst hγ
  show Wx X 0 0 w0 0 [(0, .ref (b)), (1, .int (iN (fg)))] []
  refine x_iconst (v := 0) C dX9_strides_0 ?_
  exact hret _ _ _ _ dX9_strides_1 rfl ⟨rfl, rfl⟩
theorem ok_X4_strides : okY yX4_strides 1 := by decide +kernel
def rmX4_strides : Room := { frames := 0, cells := 0, slots := 0, locals := 0 }
set_option maxRecDepth 100000 in
set_option maxHeartbeats 4000000 in
theorem c_X4_strides (l : Launch) (γ : GX) (w0 : va_W) {q0 b ci N : Nat} {Cn : String} {T : u_T} {fs : List Value} (he : w0[q0]? = some (b, ob ci fs)) (hc : vwCl[ci]? = some (Cn, T, N)) (fg : Int) (h0_ : 0 ≤ fg ∧ fg ≤ 9) : MI l γ yX4_strides wsX4_strides rmX4_strides [.ref (b), .int (iN (fg))] w0 (fun r_ w_ => r_ = (1) ∧ w_ = w0) 0 0 := by
  refine MI.of (cc := cX4_strides) (maxL := 2) (rt := .int) RX4 rfl (by decide +kernel) rfl (Nat.le_of_ble_eq_true rfl) ?_
  intro X C hγ hl hnm hret
  subst hγ
  show Wx X 0 0 w0 0 [(0, .ref (b)), (1, .int (iN (fg)))] []
  refine x_iconst (v := 0) C dX4_strides_0 ?_
  exact hret _ _ _ _ dX4_strides_1 rfl ⟨rfl, rfl⟩
theorem ok_X6_strides : okY yX6_strides 1 := by decide +kernel
def rmX6_strides : Room := { frames := 0, cells := 0, slots := 0, locals := 0 }
set_option maxRecDepth 100000 in
set_option maxHeartbeats 4000000 in
theorem c_X6_strides (l : Launch) (γ : GX) (w0 : va_W) {q0 b ci N : Nat} {Cn : String} {T : u_T} {fs : List Value} (he : w0[q0]? = some (b, ob ci fs)) (hc : vwCl[ci]? = some (Cn, T, N)) (fg : Int) (h0_ : 0 ≤ fg ∧ fg ≤ 9) : MI l γ yX6_strides wsX6_strides rmX6_strides [.ref (b), .int (iN (fg))] w0 (fun r_ w_ => r_ = (0) ∧ w_ = w0) 0 0 := by
  refine MI.of (cc := cX6_strides) (maxL := 2) (rt := .int) RX6 rfl (by decide +kernel) rfl (Nat.le_of_ble_eq_true rfl) ?_
  intro X C hγ hl hnm hret
  subst hγ
  show Wx X 0 0 w0 0 [(0, .ref (b)), (1, .int (iN (fg)))] []
  refine x_iconst (v := 0) C dX6_strides_0 ?_
  exact hret _ _ _ _ dX6_strides_1 rfl ⟨rfl, rfl⟩
theorem ok_X8_strides : okY yX8_strides 1 := by decide +kernel
def rmX8_strides : Room := { frames := 0, cells := 0, slots := 0, locals := 0 }
set_option maxRecDepth 100000 in
set_option maxHeartbeats 4000000 in
theorem c_X8_strides (l : Launch) (γ : GX) (w0 : va_W) {q0 b ci N : Nat} {Cn : String} {T : u_T} {fs : List Value} (he : w0[q0]? = some (b, ob ci fs)) (hc : vwCl[ci]? = some (Cn, T, N)) (fg : Int) (h0_ : 0 ≤ fg ∧ fg ≤ 9) : MI l γ yX8_strides wsX8_strides rmX8_strides [.ref (b), .int (iN (fg))] w0 (fun r_ w_ => r_ = (3) ∧ w_ = w0) 0 0 := by
  refine MI.of (cc := cX8_strides) (maxL := 2) (rt := .int) RX8 rfl (by decide +kernel) rfl (Nat.le_of_ble_eq_true rfl) ?_
  intro X C hγ hl hnm hret
  subst hγ
  show Wx X 0 0 w0 0 [(0, .ref (b)), (1, .int (iN (fg)))] []
  refine x_iconst (v := 0) C dX8_strides_0 ?_
  exact hret _ _ _ _ dX8_strides_1 rfl ⟨rfl, rfl⟩
theorem ok_X10_strides : okY yX10_strides 1 := by decide +kernel
def rmX10_strides : Room := { frames := 0, cells := 0, slots := 0, locals := 0 }
set_option maxRecDepth 100000 in
set_option maxHeartbeats 4000000 in
theorem c_X10_strides (l : Launch) (γ : GX) (w0 : va_W) {q0 b ci N : Nat} {Cn : String} {T : u_T} {fs : List Value} (he : w0[q0]? = some (b, ob ci fs)) (hc : vwCl[ci]? = some (Cn, T, N)) (fg : Int) (h0_ : 0 ≤ fg ∧ fg ≤ 9) : MI l γ yX10_strides wsX10_strides rmX10_strides [.ref (b), .int (iN (fg))] w0 (fun r_ w_ => r_ = (3 + fg / 3) ∧ w_ = w0) 0 0 := by
  refine MI.of (cc := cX10_strides) (maxL := 2) (rt := .int) RX10 rfl (by decide +kernel) rfl (Nat.le_of_ble_eq_true rfl) ?_
  intro X C hγ hl hnm hret
  subst hγ
  show Wx X 0 0 w0 0 [(0, .ref (b)), (1, .int (iN (fg)))] []
  refine x_iconst (v := 0) C dX10_strides_0 ?_
  refine x_iload_n C 1 rfl rfl dX10_strides_1 ?_
  refine x_iconst (v := 0) C dX10_strides_2 ?_
  refine x_idiv C (by omega) dX10_strides_3 ?_
  refine x_iadd C dX10_strides_4 ?_
  exact hret _ _ _ _ dX10_strides_5 rfl ⟨rfl, rfl⟩
theorem ok_X9_shows : okY yX9_shows 2 := by decide +kernel
def rmX9_shows : Room := { frames := 0, cells := 0, slots := 0, locals := 0 }
set_option maxRecDepth 100000 in
set_option maxHeartbeats 4000000 in
theorem c_X9_shows (l : Launch) (γ : GX) (w0 : va_W) {q0 b ci N : Nat} {Cn : String} {T : u_T} {fs : List Value} (he : w0[q0]? = some (b, ob ci fs)) (hc : vwCl[ci]? = some (Cn, T, N)) (fg : Int) (ag : Int) (h0_ : 0 ≤ fg ∧ fg ≤ 9) (h1_ : 0 ≤ ag ∧ ag ≤ 120) : MI l γ yX9_shows wsX9_shows rmX9_shows [.ref (b), .int (iN (fg)), .int (iN (ag))] w0 (fun r_ w_ => r_ = (ag) ∧ w_ = w0) 0 0 := by
  refine MI.of (cc := cX9_shows) (maxL := 3) (rt := .int) RX9 rfl (by decide +kernel) rfl (Nat.le_of_ble_eq_true rfl) ?_
  intro X C hγ hl hnm hret
  subst hγ
  show Wx X 0 0 w0 0 [(0, .ref (b)), (1, .int (iN (fg))), (2, .int (iN (ag)))] []
  refine x_iload_n C 2 rfl rfl dX9_shows_0 ?_
  exact hret _ _ _ _ dX9_shows_1 rfl ⟨rfl, rfl⟩
theorem ok_X9_price : okY yX9_price 1 := by decide +kernel
def rmX9_price : Room := { frames := 0, cells := 0, slots := 0, locals := 0 }
set_option maxRecDepth 100000 in
set_option maxHeartbeats 4000000 in
theorem c_X9_price (l : Launch) (γ : GX) (w0 : va_W) {q0 b ci N : Nat} {Cn : String} {T : u_T} {fs : List Value} (he : w0[q0]? = some (b, ob ci fs)) (hc : vwCl[ci]? = some (Cn, T, N)) (fg : Int) (h0_ : 0 ≤ fg ∧ fg ≤ 9) : MI l γ yX9_price wsX9_price rmX9_price [.ref (b), .int (iN (fg))] w0 (fun r_ w_ => r_ = (3) ∧ w_ = w0) 0 0 := by
  refine MI.of (cc := cX9_price) (maxL := 2) (rt := .int) RX9 rfl (by decide +kernel) rfl (Nat.le_of_ble_eq_true rfl) ?_
  intro X C hγ hl hnm hret
  subst hγ
  show Wx X 0 0 w0 0 [(0, .ref (b)), (1, .int (iN (fg)))] []
  refine x_iconst (v := 0) C dX9_price_0 ?_
  exact hret _ _ _ _ dX9_price_1 rfl ⟨rfl, rfl⟩
theorem ok_X6_price : okY yX6_price 1 := by decide +kernel
def rmX6_price : Room := { frames := 0, cells := 0, slots := 0, locals := 0 }
set_option maxRecDepth 100000 in
set_option maxHeartbeats 4000000 in
theorem c_X6_price (l : Launch) (γ : GX) (w0 : va_W) {q0 b ci N : Nat} {Cn : String} {T : u_T} {fs : List Value} (he : w0[q0]? = some (b, ob ci fs)) (hc : vwCl[ci]? = some (Cn, T, N)) (fg : Int) (h0_ : 0 ≤ fg ∧ fg ≤ 9) : MI l γ yX6_price wsX6_price rmX6_price [.ref (b), .int (iN (fg))] w0 (fun r_ w_ => r_ = (0) ∧ w_ = w0) 0 0 := by
  refine MI.of (cc := cX6_price) (maxL := 2) (rt := .int) RX6 rfl (by decide +kernel) rfl (Nat.le_of_ble_eq_true rfl) ?_
  intro X C hγ hl hnm hret
  subst hγ
  show Wx X 0 0 w0 0 [(0, .ref (b)), (1, .int (iN (fg)))] []
  refine x_iconst (v := 0) C dX6_price_0 ?_
  exact hret _ _ _ _ dX6_price_1 rfl ⟨rfl, rfl⟩
theorem ok_X2_price : okY yX2_price 1 := by decide +kernel
def rmX2_price : Room := { frames := 0, cells := 0, slots := 0, locals := 0 }
set_option maxRecDepth 100000 in
set_option maxHeartbeats 4000000 in
theorem c_X2_price (l : Launch) (γ : GX) (w0 : va_W) {q0 b ci N : Nat} {Cn : String} {T : u_T} {fs : List Value} (he : w0[q0]? = some (b, ob ci fs)) (hc : vwCl[ci]? = some (Cn, T, N)) (fg : Int) (h0_ : 0 ≤ fg ∧ fg ≤ 9) : MI l γ yX2_price wsX2_price rmX2_price [.ref (b), .int (iN (fg))] w0 (fun r_ w_ => r_ = (9) ∧ w_ = w0) 0 0 := by
  refine MI.of (cc := cX2_price) (maxL := 2) (rt := .int) RX2 rfl (by decide +kernel) rfl (Nat.le_of_ble_eq_true rfl) ?_
  intro X C hγ hl hnm hret
  subst hγ
  show Wx X 0 0 w0 0 [(0, .ref (b)), (1, .int (iN (fg)))] []
  refine x_bipush C (9) (by decide) dX2_price_0 ?_
  exact hret _ _ _ _ dX2_price_2 rfl ⟨rfl, rfl⟩
theorem ok_X9_failureAsTold : okY yX9_failureAsTold 1 := by decide +kernel
def rmX9_failureAsTold : Room := { frames := 0, cells := 0, slots := 0, locals := 0 }
set_option maxRecDepth 100000 in
set_option maxHeartbeats 4000000 in
theorem c_X9_failureAsTold (l : Launch) (γ : GX) (w0 : va_W) {q0 b ci N : Nat} {Cn : String} {T : u_T} {fs : List Value} (he : w0[q0]? = some (b, ob ci fs)) (hc : vwCl[ci]? = some (Cn, T, N)) (fg : Int) (h0_ : 0 ≤ fg ∧ fg ≤ 9) : MI l γ yX9_failureAsTold wsX9_failureAsTold rmX9_failureAsTold [.ref (b), .int (iN (fg))] w0 (fun r_ w_ => r_ = (fg) ∧ w_ = w0) 0 0 := by
  refine MI.of (cc := cX9_failureAsTold) (maxL := 2) (rt := .int) RX9 rfl (by decide +kernel) rfl (Nat.le_of_ble_eq_true rfl) ?_
  intro X C hγ hl hnm hret
  subst hγ
  show Wx X 0 0 w0 0 [(0, .ref (b)), (1, .int (iN (fg)))] []
  refine x_iload_n C 1 rfl rfl dX9_failureAsTold_0 ?_
  exact hret _ _ _ _ dX9_failureAsTold_1 rfl ⟨rfl, rfl⟩
theorem ok_X10_presses : okY yX10_presses 2 := by decide +kernel
def rmX10_presses : Room := { frames := 0, cells := 0, slots := 0, locals := 0 }
set_option maxRecDepth 100000 in
set_option maxHeartbeats 4000000 in
theorem c_X10_presses (l : Launch) (γ : GX) (w0 : va_W) {q0 b ci N : Nat} {Cn : String} {T : u_T} {fs : List Value} (he : w0[q0]? = some (b, ob ci fs)) (hc : vwCl[ci]? = some (Cn, T, N)) (fg : Int) (ag : Int) (h0_ : 0 ≤ fg ∧ fg ≤ 9) (h1_ : 0 ≤ ag ∧ ag ≤ 120) : MI l γ yX10_presses wsX10_presses rmX10_presses [.ref (b), .int (iN (fg)), .int (iN (ag))] w0 (fun r_ w_ => r_ = (0) ∧ w_ = w0) 0 0 := by
  refine MI.of (cc := cX10_presses) (maxL := 3) (rt := .int) RX10 rfl (by decide +kernel) rfl (Nat.le_of_ble_eq_true rfl) ?_
  intro X C hγ hl hnm hret
  subst hγ
  show Wx X 0 0 w0 0 [(0, .ref (b)), (1, .int (iN (fg))), (2, .int (iN (ag)))] []
  refine x_iconst (v := 0) C dX10_presses_0 ?_
  exact hret _ _ _ _ dX10_presses_1 rfl ⟨rfl, rfl⟩
theorem ok_X4_presses : okY yX4_presses 2 := by decide +kernel
def rmX4_presses : Room := { frames := 1, cells := 0, slots := 0, locals := 22 }
set_option maxRecDepth 100000 in
set_option maxHeartbeats 4000000 in
theorem c_X4_presses (l : Launch) (γ : GX) (w0 : va_W) {q0 b ci N : Nat} {Cn : String} {T : u_T} {fs : List Value} (he : w0[q0]? = some (b, ob ci fs)) (hc : vwCl[ci]? = some (Cn, T, N)) (fg : Int) (ag : Int) (h0_ : 0 ≤ fg ∧ fg ≤ 9) (h1_ : 0 ≤ ag ∧ ag ≤ 120) : MI l γ yX4_presses wsX4_presses rmX4_presses [.ref (b), .int (iN (fg)), .int (iN (ag))] w0 (fun r_ w_ => r_ = (prR ag) ∧ w_ = w0) 0 0 := by
  refine MI.of (cc := cX4_presses) (maxL := 4) (rt := .int) RX4 rfl (by decide +kernel) rfl (Nat.le_of_ble_eq_true rfl) ?_
  intro X C hγ hl hnm hret
  subst hγ
  show Wx X 0 0 w0 0 [(0, .ref (b)), (1, .int (iN (fg))), (2, .int (iN (ag)))] []
  refine x_aload_n C 0 rfl rfl dX4_presses_0 ?_
  refine x_iload_n C 1 rfl rfl dX4_presses_1 ?_
  refine x_iload_n C 2 rfl rfl dX4_presses_2 ?_
  refine x_P_I C (As := [.int (iN (fg)), .int (iN (ag))]) (rest := []) 2 q0 he hc gX4_presses_X9_presses_s7 (by decide +kernel) (c_X9_presses _ _ w0 he hc (fg) (ag) (by omega) (by omega)) rfl ok_X9_presses rfl rfl rfl rfl dX4_presses_3 (fun r w1 hp => ?_)
  obtain ⟨rfl, rfl⟩ := hp
  have b1 := prW_b (ag := ag) (by omega)
  refine x_istore_n C [(3, .int (iN (prW ag))), (0, .ref (b)), (1, .int (iN (fg))), (2, .int (iN (ag)))] rfl (by decide) rfl dX4_presses_6 ?_
  refine x_iload_n C 0 rfl rfl dX4_presses_7 ?_
  refine x_iconst (v := 0) C dX4_presses_8 ?_
  refine x_icmp_ge C 16 (by decide) (by omega) dX4_presses_9 (fun c_9 => ?_) (fun c_9 => ?_)
  · refine x_iload_n C 0 rfl rfl dX4_presses_16 ?_
    refine x_iconst (v := 0) C dX4_presses_17 ?_
    refine x_isub C dX4_presses_18 ?_
    exact hret _ _ _ _ dX4_presses_19 rfl ⟨(by unfold prR; omega), rfl⟩
  · refine x_iconst (v := 0) C dX4_presses_12 ?_
    refine x_goto C 19 (by decide) dX4_presses_13 ?_
    exact hret _ _ _ _ dX4_presses_19 rfl ⟨(by unfold prR; omega), rfl⟩
theorem ok_X6_presses : okY yX6_presses 2 := by decide +kernel
def rmX6_presses : Room := { frames := 1, cells := 0, slots := 0, locals := 22 }
set_option maxRecDepth 100000 in
set_option maxHeartbeats 4000000 in
theorem c_X6_presses (l : Launch) (γ : GX) (w0 : va_W) {q0 b ci N : Nat} {Cn : String} {T : u_T} {fs : List Value} (he : w0[q0]? = some (b, ob ci fs)) (hc : vwCl[ci]? = some (Cn, T, N)) (fg : Int) (ag : Int) (h0_ : 0 ≤ fg ∧ fg ≤ 9) (h1_ : 0 ≤ ag ∧ ag ≤ 120) : MI l γ yX6_presses wsX6_presses rmX6_presses [.ref (b), .int (iN (fg)), .int (iN (ag))] w0 (fun r_ w_ => r_ = (prS ag) ∧ w_ = w0) 0 0 := by
  refine MI.of (cc := cX6_presses) (maxL := 3) (rt := .int) RX6 rfl (by decide +kernel) rfl (Nat.le_of_ble_eq_true rfl) ?_
  intro X C hγ hl hnm hret
  subst hγ
  show Wx X 0 0 w0 0 [(0, .ref (b)), (1, .int (iN (fg))), (2, .int (iN (ag)))] []
  refine x_aload_n C 0 rfl rfl dX6_presses_0 ?_
  refine x_iload_n C 1 rfl rfl dX6_presses_1 ?_
  refine x_iload_n C 2 rfl rfl dX6_presses_2 ?_
  refine x_P_I C (As := [.int (iN (fg)), .int (iN (ag))]) (rest := []) 2 q0 he hc gX6_presses_X9_presses_s7 (by decide +kernel) (c_X9_presses _ _ w0 he hc (fg) (ag) (by omega) (by omega)) rfl ok_X9_presses rfl rfl rfl rfl dX6_presses_3 (fun r w1 hp => ?_)
  obtain ⟨rfl, rfl⟩ := hp
  have b2 := prW_b (ag := ag) (by omega)
  refine x_iload_n C 2 rfl rfl dX6_presses_6 ?_
  refine x_bipush C (60) (by decide) dX6_presses_7 ?_
  refine x_icmp_lt C 16 (by decide) (by omega) dX6_presses_9 (fun c_9 => ?_) (fun c_9 => ?_)
  · refine x_iconst (v := 0) C dX6_presses_16 ?_
    refine x_iadd C dX6_presses_17 ?_
    exact hret _ _ _ _ dX6_presses_18 rfl ⟨(by unfold prS; omega), rfl⟩
  · refine x_iconst (v := 0) C dX6_presses_12 ?_
    refine x_goto C 17 (by decide) dX6_presses_13 ?_
    refine x_iadd C dX6_presses_17 ?_
    exact hret _ _ _ _ dX6_presses_18 rfl ⟨(by unfold prS; omega), rfl⟩
theorem ok_X2_presses : okY yX2_presses 2 := by decide +kernel
def rmX2_presses : Room := { frames := 2, cells := 0, slots := 0, locals := 44 }
set_option maxRecDepth 100000 in
set_option maxHeartbeats 4000000 in
theorem c_X2_presses (l : Launch) (γ : GX) (w0 : va_W) {q0 b ci N : Nat} {Cn : String} {T : u_T} {fs : List Value} (he : w0[q0]? = some (b, ob ci fs)) (hc : vwCl[ci]? = some (Cn, T, N)) (fg : Int) (ag : Int) (h0_ : 0 ≤ fg ∧ fg ≤ 9) (h1_ : 0 ≤ ag ∧ ag ≤ 120) : MI l γ yX2_presses wsX2_presses rmX2_presses [.ref (b), .int (iN (fg)), .int (iN (ag))] w0 (fun r_ w_ => r_ = (2 * prS ag) ∧ w_ = w0) 0 0 := by
  refine MI.of (cc := cX2_presses) (maxL := 3) (rt := .int) RX2 rfl (by decide +kernel) rfl (Nat.le_of_ble_eq_true rfl) ?_
  intro X C hγ hl hnm hret
  subst hγ
  show Wx X 0 0 w0 0 [(0, .ref (b)), (1, .int (iN (fg))), (2, .int (iN (ag)))] []
  refine x_iconst (v := 0) C dX2_presses_0 ?_
  refine x_aload_n C 0 rfl rfl dX2_presses_1 ?_
  refine x_iload_n C 1 rfl rfl dX2_presses_2 ?_
  refine x_iload_n C 2 rfl rfl dX2_presses_3 ?_
  refine x_P_I C (As := [.int (iN (fg)), .int (iN (ag))]) (rest := [.int (iN (2))]) 2 q0 he hc gX2_presses_X6_presses_s7 (by decide +kernel) (c_X6_presses _ _ w0 he hc (fg) (ag) (by omega) (by omega)) rfl ok_X6_presses rfl rfl rfl rfl dX2_presses_4 (fun r w1 hp => ?_)
  obtain ⟨rfl, rfl⟩ := hp
  have b3 := prW_b (ag := ag) (by omega)
  refine x_imul C dX2_presses_7 ?_
  exact hret _ _ _ _ dX2_presses_8 rfl ⟨rfl, rfl⟩
theorem ok_X0_presses : okY yX0_presses 2 := by decide +kernel
def rmX0_presses : Room := { frames := 2, cells := 0, slots := 0, locals := 45 }
set_option maxRecDepth 100000 in
set_option maxHeartbeats 4000000 in
theorem c_X0_presses (l : Launch) (γ : GX) (w0 : va_W) {q0 b ci N : Nat} {Cn : String} {T : u_T} {fs : List Value} (he : w0[q0]? = some (b, ob ci fs)) (hc : vwCl[ci]? = some (Cn, T, N)) (fg : Int) (ag : Int) (h0_ : 0 ≤ fg ∧ fg ≤ 9) (h1_ : 0 ≤ ag ∧ ag ≤ 120) : MI l γ yX0_presses wsX0_presses rmX0_presses [.ref (b), .int (iN (fg)), .int (iN (ag))] w0 (fun r_ w_ => r_ = (prR ag + fg / 3) ∧ w_ = w0) 0 0 := by
  refine MI.of (cc := cX0_presses) (maxL := 3) (rt := .int) RX0 rfl (by decide +kernel) rfl (Nat.le_of_ble_eq_true rfl) ?_
  intro X C hγ hl hnm hret
  subst hγ
  show Wx X 0 0 w0 0 [(0, .ref (b)), (1, .int (iN (fg))), (2, .int (iN (ag)))] []
  refine x_aload_n C 0 rfl rfl dX0_presses_0 ?_
  refine x_iload_n C 1 rfl rfl dX0_presses_1 ?_
  refine x_iload_n C 2 rfl rfl dX0_presses_2 ?_
  refine x_P_I C (As := [.int (iN (fg)), .int (iN (ag))]) (rest := []) 2 q0 he hc gX0_presses_X4_presses_s7 (by decide +kernel) (c_X4_presses _ _ w0 he hc (fg) (ag) (by omega) (by omega)) rfl ok_X4_presses rfl rfl rfl rfl dX0_presses_3 (fun r w1 hp => ?_)
  obtain ⟨rfl, rfl⟩ := hp
  have b4 := prW_b (ag := ag) (by omega)
  refine x_iload_n C 1 rfl rfl dX0_presses_6 ?_
  refine x_iconst (v := 0) C dX0_presses_7 ?_
  refine x_idiv C (by omega) dX0_presses_8 ?_
  refine x_iadd C dX0_presses_9 ?_
  exact hret _ _ _ _ dX0_presses_10 rfl ⟨rfl, rfl⟩
theorem ok_X8_presses : okY yX8_presses 2 := by decide +kernel
def rmX8_presses : Room := { frames := 1, cells := 0, slots := 0, locals := 60 }
set_option maxRecDepth 100000 in
set_option maxHeartbeats 4000000 in
theorem c_X8_presses (l : Launch) (γ : GX) (w0 : va_W) {q0 b ci N : Nat} {Cn : String} {T : u_T} {fs : List Value} (he : w0[q0]? = some (b, ob ci fs)) (hc : vwCl[ci]? = some (Cn, T, N)) (fg : Int) (ag : Int) (h0_ : 0 ≤ fg ∧ fg ≤ 9) (h1_ : 0 ≤ ag ∧ ag ≤ 120) : MI l γ yX8_presses wsX8_presses rmX8_presses [.ref (b), .int (iN (fg)), .int (iN (ag))] w0 (fun r_ w_ => r_ = (prW ag + 1) ∧ w_ = w0) 0 0 := by
  refine MI.of (cc := cX8_presses) (maxL := 3) (rt := .int) RX8 rfl (by decide +kernel) rfl (Nat.le_of_ble_eq_true rfl) ?_
  intro X C hγ hl hnm hret
  subst hγ
  show Wx X 0 0 w0 0 [(0, .ref (b)), (1, .int (iN (fg))), (2, .int (iN (ag)))] []
  refine x_aload_n C 0 rfl rfl dX8_presses_0 ?_
  refine x_iload_n C 1 rfl rfl dX8_presses_1 ?_
  refine x_iload_n C 2 rfl rfl dX8_presses_2 ?_
  refine x_Q_I C (As := [.int (iN (fg)), .int (iN (ag))]) (rest := []) (wsY' := []) (x := ⟨RX3, "presses", "(II)I"⟩) 2 q0 he hc rfl (List.mem_of_getElem? (i := 0) rfl) (List.mem_of_getElem? (i := 1) rfl) (List.mem_of_getElem? (i := 2) rfl) (List.mem_of_getElem? (i := 3) rfl) (List.mem_of_getElem? (i := 4) rfl) (List.mem_of_getElem? (i := 5) rfl) (List.mem_of_getElem? (i := 6) rfl) rfl (by decide +kernel) (c_X9_presses _ _ w0 he hc (fg) (ag) (by omega) (by omega)) rfl rfl rfl rfl dX8_presses_3 (fun r w1 hp => ?_)
  obtain ⟨rfl, rfl⟩ := hp
  refine x_iconst (v := 0) C dX8_presses_6 ?_
  refine x_iadd C dX8_presses_7 ?_
  exact hret _ _ _ _ dX8_presses_8 rfl ⟨rfl, rfl⟩
theorem ok_X3_shows : okY yX3_shows 2 := by decide +kernel
def rmX3_shows : Room := { frames := 0, cells := 0, slots := 0, locals := 0 }
set_option maxRecDepth 100000 in
set_option maxHeartbeats 4000000 in
theorem c_X3_shows (l : Launch) (γ : GX) (w0 : va_W) {q0 b ci N : Nat} {Cn : String} {T : u_T} {fs : List Value} (he : w0[q0]? = some (b, ob ci fs)) (hc : vwCl[ci]? = some (Cn, T, N)) (fg : Int) (ag : Int) (h0_ : 0 ≤ fg ∧ fg ≤ 9) (h1_ : 0 ≤ ag ∧ ag ≤ 120) : MI l γ yX3_shows wsX3_shows rmX3_shows [.ref (b), .int (iN (fg)), .int (iN (ag))] w0 (fun r_ w_ => r_ = (shH fg ag) ∧ w_ = w0) 0 0 := by
  refine MI.of (cc := cX3_shows) (maxL := 4) (rt := .int) RX3 rfl (by decide +kernel) rfl (Nat.le_of_ble_eq_true rfl) ?_
  intro X C hγ hl hnm hret
  subst hγ
  show Wx X 0 0 w0 0 [(0, .ref (b)), (1, .int (iN (fg))), (2, .int (iN (ag)))] []
  refine x_iload_n C 1 rfl rfl dX3_shows_0 ?_
  refine x_bipush C (10) (by decide) dX3_shows_1 ?_
  refine x_iadd C dX3_shows_3 ?_
  refine x_istore_n C [(3, .int (iN (fg + 10))), (0, .ref (b)), (1, .int (iN (fg))), (2, .int (iN (ag)))] rfl (by decide) rfl dX3_shows_4 ?_
  refine x_iload_n C 3 rfl rfl dX3_shows_5 ?_
  refine x_iload_n C 0 rfl rfl dX3_shows_6 ?_
  refine x_icmp_ge C 14 (by decide) (by omega) dX3_shows_7 (fun c_7 => ?_) (fun c_7 => ?_)
  · refine x_iload_n C 3 rfl rfl dX3_shows_14 ?_
    refine x_iload_n C 0 rfl rfl dX3_shows_15 ?_
    refine x_isub C dX3_shows_16 ?_
    exact hret _ _ _ _ dX3_shows_17 rfl ⟨(by unfold shH; omega), rfl⟩
  · refine x_iconst (v := 0) C dX3_shows_10 ?_
    refine x_goto C 17 (by decide) dX3_shows_11 ?_
    exact hret _ _ _ _ dX3_shows_17 rfl ⟨(by unfold shH; omega), rfl⟩
theorem ok_X8_shows : okY yX8_shows 2 := by decide +kernel
def rmX8_shows : Room := { frames := 1, cells := 0, slots := 0, locals := 23 }
set_option maxRecDepth 100000 in
set_option maxHeartbeats 4000000 in
theorem c_X8_shows (l : Launch) (γ : GX) (w0 : va_W) {q0 b ci N : Nat} {Cn : String} {T : u_T} {fs : List Value} (he : w0[q0]? = some (b, ob ci fs)) (hc : vwCl[ci]? = some (Cn, T, N)) (fg : Int) (ag : Int) (h0_ : 0 ≤ fg ∧ fg ≤ 9) (h1_ : 0 ≤ ag ∧ ag ≤ 120) : MI l γ yX8_shows wsX8_shows rmX8_shows [.ref (b), .int (iN (fg)), .int (iN (ag))] w0 (fun r_ w_ => r_ = (shH fg ag / 2) ∧ w_ = w0) 0 0 := by
  refine MI.of (cc := cX8_shows) (maxL := 3) (rt := .int) RX8 rfl (by decide +kernel) rfl (Nat.le_of_ble_eq_true rfl) ?_
  intro X C hγ hl hnm hret
  subst hγ
  show Wx X 0 0 w0 0 [(0, .ref (b)), (1, .int (iN (fg))), (2, .int (iN (ag)))] []
  refine x_aload_n C 0 rfl rfl dX8_shows_0 ?_
  refine x_iload_n C 1 rfl rfl dX8_shows_1 ?_
  refine x_iload_n C 2 rfl rfl dX8_shows_2 ?_
  refine x_P_I C (As := [.int (iN (fg)), .int (iN (ag))]) (rest := []) 2 q0 he hc gX8_shows_X3_shows_s11 (by decide +kernel) (c_X3_shows _ _ w0 he hc (fg) (ag) (by omega) (by omega)) rfl ok_X3_shows rfl rfl rfl rfl dX8_shows_3 (fun r w1 hp => ?_)
  obtain ⟨rfl, rfl⟩ := hp
  have b5 := (show 0 ≤ shH fg ag ∧ shH fg ag ≤ 120 from by unfold shH; omega)
  refine x_iconst (v := 0) C dX8_shows_6 ?_
  refine x_idiv C (by omega) dX8_shows_7 ?_
  exact hret _ _ _ _ dX8_shows_8 rfl ⟨rfl, rfl⟩
theorem ok_X4_price : okY yX4_price 1 := by decide +kernel
def rmX4_price : Room := { frames := 1, cells := 0, slots := 0, locals := 21 }
set_option maxRecDepth 100000 in
set_option maxHeartbeats 4000000 in
theorem c_X4_price (l : Launch) (γ : GX) (w0 : va_W) {q0 b ci N : Nat} {Cn : String} {T : u_T} {fs : List Value} (he : w0[q0]? = some (b, ob ci fs)) (hc : vwCl[ci]? = some (Cn, T, N)) (fg : Int) (h0_ : 0 ≤ fg ∧ fg ≤ 9) : MI l γ yX4_price wsX4_price rmX4_price [.ref (b), .int (iN (fg))] w0 (fun r_ w_ => r_ = (3 + fg) ∧ w_ = w0) 0 0 := by
  refine MI.of (cc := cX4_price) (maxL := 2) (rt := .int) RX4 rfl (by decide +kernel) rfl (Nat.le_of_ble_eq_true rfl) ?_
  intro X C hγ hl hnm hret
  subst hγ
  show Wx X 0 0 w0 0 [(0, .ref (b)), (1, .int (iN (fg)))] []
  refine x_aload_n C 0 rfl rfl dX4_price_0 ?_
  refine x_iload_n C 1 rfl rfl dX4_price_1 ?_
  refine x_P_I C (As := [.int (iN (fg))]) (rest := []) 1 q0 he hc gX4_price_X9_price_s11 (by decide +kernel) (c_X9_price _ _ w0 he hc (fg) (by omega)) rfl ok_X9_price rfl rfl rfl rfl dX4_price_2 (fun r w1 hp => ?_)
  obtain ⟨rfl, rfl⟩ := hp
  refine x_iload_n C 1 rfl rfl dX4_price_5 ?_
  refine x_iadd C dX4_price_6 ?_
  exact hret _ _ _ _ dX4_price_7 rfl ⟨rfl, rfl⟩
theorem ok_X10_price : okY yX10_price 1 := by decide +kernel
def rmX10_price : Room := { frames := 1, cells := 0, slots := 0, locals := 21 }
set_option maxRecDepth 100000 in
set_option maxHeartbeats 4000000 in
theorem c_X10_price (l : Launch) (γ : GX) (w0 : va_W) {q0 b ci N : Nat} {Cn : String} {T : u_T} {fs : List Value} (he : w0[q0]? = some (b, ob ci fs)) (hc : vwCl[ci]? = some (Cn, T, N)) (fg : Int) (h0_ : 0 ≤ fg ∧ fg ≤ 9) : MI l γ yX10_price wsX10_price rmX10_price [.ref (b), .int (iN (fg))] w0 (fun r_ w_ => r_ = (3 + fg) ∧ w_ = w0) 0 0 := by
  refine MI.of (cc := cX10_price) (maxL := 2) (rt := .int) RX10 rfl (by decide +kernel) rfl (Nat.le_of_ble_eq_true rfl) ?_
  intro X C hγ hl hnm hret
  subst hγ
  show Wx X 0 0 w0 0 [(0, .ref (b)), (1, .int (iN (fg)))] []
  refine x_aload_n C 0 rfl rfl dX10_price_0 ?_
  refine x_iload_n C 1 rfl rfl dX10_price_1 ?_
  refine x_P_I C (As := [.int (iN (fg))]) (rest := []) 1 q0 he hc gX10_price_X9_price_s7 (by decide +kernel) (c_X9_price _ _ w0 he hc (fg) (by omega)) rfl ok_X9_price rfl rfl rfl rfl dX10_price_2 (fun r w1 hp => ?_)
  obtain ⟨rfl, rfl⟩ := hp
  refine x_iload_n C 1 rfl rfl dX10_price_5 ?_
  refine x_iadd C dX10_price_6 ?_
  exact hret _ _ _ _ dX10_price_7 rfl ⟨rfl, rfl⟩
theorem ok_X3_price : okY yX3_price 1 := by decide +kernel
def rmX3_price : Room := { frames := 1, cells := 0, slots := 0, locals := 21 }
set_option maxRecDepth 100000 in
set_option maxHeartbeats 4000000 in
theorem c_X3_price (l : Launch) (γ : GX) (w0 : va_W) {q0 b ci N : Nat} {Cn : String} {T : u_T} {fs : List Value} (he : w0[q0]? = some (b, ob ci fs)) (hc : vwCl[ci]? = some (Cn, T, N)) (fg : Int) (h0_ : 0 ≤ fg ∧ fg ≤ 9) : MI l γ yX3_price wsX3_price rmX3_price [.ref (b), .int (iN (fg))] w0 (fun r_ w_ => r_ = (2) ∧ w_ = w0) 0 0 := by
  refine MI.of (cc := cX3_price) (maxL := 2) (rt := .int) RX3 rfl (by decide +kernel) rfl (Nat.le_of_ble_eq_true rfl) ?_
  intro X C hγ hl hnm hret
  subst hγ
  show Wx X 0 0 w0 0 [(0, .ref (b)), (1, .int (iN (fg)))] []
  refine x_aload_n C 0 rfl rfl dX3_price_0 ?_
  refine x_iload_n C 1 rfl rfl dX3_price_1 ?_
  refine x_P_I C (As := [.int (iN (fg))]) (rest := []) 1 q0 he hc gX3_price_X9_price_s7 (by decide +kernel) (c_X9_price _ _ w0 he hc (fg) (by omega)) rfl ok_X9_price rfl rfl rfl rfl dX3_price_2 (fun r w1 hp => ?_)
  obtain ⟨rfl, rfl⟩ := hp
  refine x_iconst (v := 0) C dX3_price_5 ?_
  refine x_isub C dX3_price_6 ?_
  exact hret _ _ _ _ dX3_price_7 rfl ⟨rfl, rfl⟩
theorem ok_X0_price : okY yX0_price 1 := by decide +kernel
def rmX0_price : Room := { frames := 2, cells := 0, slots := 0, locals := 42 }
set_option maxRecDepth 100000 in
set_option maxHeartbeats 4000000 in
theorem c_X0_price (l : Launch) (γ : GX) (w0 : va_W) {q0 b ci N : Nat} {Cn : String} {T : u_T} {fs : List Value} (he : w0[q0]? = some (b, ob ci fs)) (hc : vwCl[ci]? = some (Cn, T, N)) (fg : Int) (h0_ : 0 ≤ fg ∧ fg ≤ 9) : MI l γ yX0_price wsX0_price rmX0_price [.ref (b), .int (iN (fg))] w0 (fun r_ w_ => r_ = (2 * (3 + fg)) ∧ w_ = w0) 0 0 := by
  refine MI.of (cc := cX0_price) (maxL := 2) (rt := .int) RX0 rfl (by decide +kernel) rfl (Nat.le_of_ble_eq_true rfl) ?_
  intro X C hγ hl hnm hret
  subst hγ
  show Wx X 0 0 w0 0 [(0, .ref (b)), (1, .int (iN (fg)))] []
  refine x_iconst (v := 0) C dX0_price_0 ?_
  refine x_aload_n C 0 rfl rfl dX0_price_1 ?_
  refine x_iload_n C 1 rfl rfl dX0_price_2 ?_
  refine x_P_I C (As := [.int (iN (fg))]) (rest := [.int (iN (2))]) 1 q0 he hc gX0_price_X4_price_s11 (by decide +kernel) (c_X4_price _ _ w0 he hc (fg) (by omega)) rfl ok_X4_price rfl rfl rfl rfl dX0_price_3 (fun r w1 hp => ?_)
  obtain ⟨rfl, rfl⟩ := hp
  refine x_imul C dX0_price_6 ?_
  exact hret _ _ _ _ dX0_price_7 rfl ⟨rfl, rfl⟩
theorem ok_X4_failureAsTold : okY yX4_failureAsTold 1 := by decide +kernel
def rmX4_failureAsTold : Room := { frames := 1, cells := 0, slots := 0, locals := 21 }
set_option maxRecDepth 100000 in
set_option maxHeartbeats 4000000 in
theorem c_X4_failureAsTold (l : Launch) (γ : GX) (w0 : va_W) {q0 b ci N : Nat} {Cn : String} {T : u_T} {fs : List Value} (he : w0[q0]? = some (b, ob ci fs)) (hc : vwCl[ci]? = some (Cn, T, N)) (fg : Int) (h0_ : 0 ≤ fg ∧ fg ≤ 9) : MI l γ yX4_failureAsTold wsX4_failureAsTold rmX4_failureAsTold [.ref (b), .int (iN (fg))] w0 (fun r_ w_ => r_ = (100 + fg) ∧ w_ = w0) 0 0 := by
  refine MI.of (cc := cX4_failureAsTold) (maxL := 2) (rt := .int) RX4 rfl (by decide +kernel) rfl (Nat.le_of_ble_eq_true rfl) ?_
  intro X C hγ hl hnm hret
  subst hγ
  show Wx X 0 0 w0 0 [(0, .ref (b)), (1, .int (iN (fg)))] []
  refine x_aload_n C 0 rfl rfl dX4_failureAsTold_0 ?_
  refine x_iload_n C 1 rfl rfl dX4_failureAsTold_1 ?_
  refine x_P_I C (As := [.int (iN (fg))]) (rest := []) 1 q0 he hc gX4_failureAsTold_X9_failureAsTold_s15 (by decide +kernel) (c_X9_failureAsTold _ _ w0 he hc (fg) (by omega)) rfl ok_X9_failureAsTold rfl rfl rfl rfl dX4_failureAsTold_2 (fun r w1 hp => ?_)
  obtain ⟨rfl, rfl⟩ := hp
  refine x_bipush C (100) (by decide) dX4_failureAsTold_5 ?_
  refine x_iadd C dX4_failureAsTold_7 ?_
  exact hret _ _ _ _ dX4_failureAsTold_8 rfl ⟨(by omega), rfl⟩
theorem ok_X0_failureAsTold : okY yX0_failureAsTold 1 := by decide +kernel
def rmX0_failureAsTold : Room := { frames := 3, cells := 0, slots := 0, locals := 63 }
set_option maxRecDepth 100000 in
set_option maxHeartbeats 4000000 in
theorem c_X0_failureAsTold (l : Launch) (γ : GX) (w0 : va_W) {q0 b : Nat} {fs : List Value} (he : w0[q0]? = some (b, ob 0 fs)) (fg : Int) (h0_ : 0 ≤ fg ∧ fg ≤ 9) : MI l γ yX0_failureAsTold wsX0_failureAsTold rmX0_failureAsTold [.ref (b), .int (iN (fg))] w0 (fun r_ w_ => r_ = (200 + 2 * (3 + fg)) ∧ w_ = w0) 0 0 := by
  refine MI.of (cc := cX0_failureAsTold) (maxL := 2) (rt := .int) RX0 rfl (by decide +kernel) rfl (Nat.le_of_ble_eq_true rfl) ?_
  intro X C hγ hl hnm hret
  subst hγ
  show Wx X 0 0 w0 0 [(0, .ref (b)), (1, .int (iN (fg)))] []
  refine x_sipush C (200) (by decide) dX0_failureAsTold_0 ?_
  refine x_aload_n C 0 rfl rfl dX0_failureAsTold_3 ?_
  refine x_iload_n C 1 rfl rfl dX0_failureAsTold_4 ?_
  refine x_V_I C (As := [.int (iN (fg))]) (rest := [.int (iN (200))]) 1 q0 he rfl gX0_failureAsTold_X0_price rfl (c_X0_price _ _ w0 he rfl (fg) (by omega)) rfl ok_X0_price rfl rfl rfl rfl dX0_failureAsTold_5 (fun r w1 hp => ?_)
  obtain ⟨rfl, rfl⟩ := hp
  refine x_iadd C dX0_failureAsTold_8 ?_
  exact hret _ _ _ _ dX0_failureAsTold_9 rfl ⟨rfl, rfl⟩
end HKIN
