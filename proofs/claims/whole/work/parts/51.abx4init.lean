section HCTOab
theorem ok_X4_init : okY yX4_init 0 := by decide +kernel
def rmX4_init : Room := { frames := 2, cells := 0, slots := 0, locals := 80 }
set_option maxRecDepth 100000 in
set_option maxHeartbeats 400000 in
theorem c_X4_init (l : Launch) (γ : GX) (w0 : va_W) (b : Nat) : MV l γ yX4_init wsX4_init rmX4_init [.ref (b)] w0 (fun w_ => w_ = w0) 0 0 := by
  refine MV.of (cc := cX4_init) (maxL := 1) RX4 rfl (by decide +kernel) rfl (Nat.le_of_ble_eq_true rfl) ?_
  intro X C hγ hl hnm hret
  subst hγ
  show Wx X 0 0 w0 0 [(0, .ref (b))] []
  refine x_aload_n C 0 rfl rfl dX4_init_0 ?_
  refine x_I_V C (As := []) (rest := []) (b := b) 0 gX4_init_X9_init (List.mem_of_getElem? (i := 3) rfl) (List.mem_of_getElem? (i := 1) rfl) (List.mem_of_getElem? (i := 2) rfl) rfl rfl (c_X9_init _ _ w0 b) rfl ok_X9_init rfl rfl rfl rfl dX4_init_1 (fun w1 hp => ?_)
  obtain rfl := hp
  exact hret _ _ _ dX4_init_4 rfl
end HCTOab
