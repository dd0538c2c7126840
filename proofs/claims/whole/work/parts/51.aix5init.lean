section HCTOai
theorem in_X5_init_X5 : ∀ w ∈ u_ws RX5 TX5 6, w ∈ wsX5_init := by decide +kernel
theorem ok_X5_init : okY yX5_init 0 := by decide +kernel
def rmX5_init : Room := { frames := 1, cells := 1, slots := 100, locals := 60 }
set_option maxRecDepth 100000 in
set_option maxHeartbeats 400000 in
theorem c_X5_init (l : Launch) (γ : GX) (h : Nat) : MV l γ yX5_init wsX5_init rmX5_init [.ref (h)] [(h, ob 5 [.int (iN (0)), .int (iN (0)), .int (iN (0)), .int (iN (0)), .int (iN (0)), .null])] (fun w_ => ∃ q, w_ = [(h, ob 5 [.int (iN (0)), .int (iN (0)), .int (iN (0)), .int (iN (0)), .int (iN (0)), .ref (q)]), (q, aI γ 100 (fun _ => 0))]) 1 100 := by
  refine MV.of (cc := cX5_init) (maxL := 1) RX5 rfl (by decide +kernel) rfl (Nat.le_of_ble_eq_true rfl) ?_
  intro X C hγ hl hnm hret
  subst hγ
  have hinit : X.meth.name = "<init>" := hnm
  show Wx X 0 0 [(h, ob 5 [.int (iN (0)), .int (iN (0)), .int (iN (0)), .int (iN (0)), .int (iN (0)), .null])] 0 [(0, .ref (h))] []
  refine x_aload_n C 0 rfl rfl dX5_init_0 ?_
  refine x_objInit C (List.mem_of_getElem? (i := 1) rfl) (List.mem_of_getElem? (i := 2) rfl) (List.mem_of_getElem? (i := 3) rfl) rfl dX5_init_1 ?_
  refine x_aload_n C 0 rfl rfl dX5_init_4 ?_
  refine x_iconst (v := 0) C dX5_init_5 ?_
  refine x_put C in_X5_init_X5 tyX5 tyX5_ok nmX5 0 rfl rfl 0 (by decide) (List.mem_of_getElem? (i := 4) rfl) rfl rfl rfl rfl rfl (Nat.le_of_ble_eq_true rfl) [(h, ob 5 [.int (iN (0)), .int (iN (0)), .int (iN (0)), .int (iN (0)), .int (iN (0)), .null])] rfl dX5_init_6 ?_
  refine x_aload_n C 0 rfl rfl dX5_init_9 ?_
  refine x_bipush C (100) (by decide) dX5_init_10 ?_
  refine x_newaI C 100 rfl rfl (List.mem_of_getElem? (i := 5) rfl) rfl dX5_init_12 (fun q1 => ?_)
  show Wx X 1 100 [(h, ob 5 [.int (iN (0)), .int (iN (0)), .int (iN (0)), .int (iN (0)), .int (iN (0)), .null]), (q1, aI X.γ 100 (fun _ => 0))] 14 [(0, .ref (h))] [.ref (q1), .ref (h)]
  refine x_putF C hinit in_X5_init_X5 tyX5 tyX5_ok nmX5 0 rfl rfl 5 (by decide) (List.mem_of_getElem? (i := 6) rfl) rfl rfl rfl rfl rfl rfl (Nat.le_of_ble_eq_true rfl) [(h, ob 5 [.int (iN (0)), .int (iN (0)), .int (iN (0)), .int (iN (0)), .int (iN (0)), .ref (q1)]), (q1, aI X.γ 100 (fun _ => 0))] rfl dX5_init_14 ?_
  exact hret _ _ _ dX5_init_17 ⟨q1, rfl⟩
end HCTOai
