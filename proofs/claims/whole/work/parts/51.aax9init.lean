section HCTOaa
theorem ok_X9_init : okY yX9_init 0 := by decide +kernel
def rmX9_init : Room := { frames := 1, cells := 0, slots := 0, locals := 60 }
set_option maxRecDepth 100000 in
set_option maxHeartbeats 400000 in
theorem c_X9_init (l : Launch) (γ : GX) (w0 : va_W) (b : Nat) : MV l γ yX9_init wsX9_init rmX9_init [.ref (b)] w0 (fun w_ => w_ = w0) 0 0 := by
  refine MV.of (cc := cX9_init) (maxL := 1) RX9 rfl (by decide +kernel) rfl (Nat.le_of_ble_eq_true rfl) ?_
  intro X C hγ hl hnm hret
  subst hγ
  show Wx X 0 0 w0 0 [(0, .ref (b))] []
  refine x_aload_n C 0 rfl rfl dX9_init_0 ?_
  refine x_objInit C (List.mem_of_getElem? (i := 1) rfl) (List.mem_of_getElem? (i := 2) rfl) (List.mem_of_getElem? (i := 3) rfl) rfl dX9_init_1 ?_
  exact hret _ _ _ dX9_init_4 rfl
end HCTOaa
