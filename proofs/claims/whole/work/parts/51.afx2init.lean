section HCTOaf
theorem ok_X2_init : okY yX2_init 0 := by decide +kernel
def rmX2_init : Room := { frames := 3, cells := 0, slots := 0, locals := 100 }
set_option maxRecDepth 100000 in
set_option maxHeartbeats 400000 in
theorem c_X2_init (l : Launch) (γ : GX) (w0 : va_W) (b : Nat) : MV l γ yX2_init wsX2_init rmX2_init [.ref (b)] w0 (fun w_ => w_ = w0) 0 0 := by
  refine MV.of (cc := cX2_init) (maxL := 1) RX2 rfl (by decide +kernel) rfl (Nat.le_of_ble_eq_true rfl) ?_
  intro X C hγ hl hnm hret
  subst hγ
  show Wx X 0 0 w0 0 [(0, .ref (b))] []
  refine x_aload_n C 0 rfl rfl dX2_init_0 ?_
  refine x_I_V C (As := []) (rest := []) (b := b) 0 gX2_init_X6_init (List.mem_of_getElem? (i := 3) rfl) (List.mem_of_getElem? (i := 1) rfl) (List.mem_of_getElem? (i := 2) rfl) rfl rfl (c_X6_init _ _ w0 b) rfl ok_X6_init rfl rfl rfl rfl dX2_init_1 (fun w1 hp => ?_)
  obtain rfl := hp
  exact hret _ _ _ dX2_init_4 rfl
end HCTOaf
