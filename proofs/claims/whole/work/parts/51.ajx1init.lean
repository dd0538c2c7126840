section HCTOaj
theorem in_X1_init_X1 : ∀ w ∈ u_ws RX1 TX1 13, w ∈ wsX1_init := by decide +kernel
theorem ok_X1_init : okY yX1_init 1 := by decide +kernel
def rmX1_init : Room := { frames := 1, cells := 10, slots := 78, locals := 60 }
set_option maxRecDepth 100000 in
set_option maxHeartbeats 400000 in
theorem c_X1_init (l : Launch) (γ : GX) (h kd : Nat) : MV l γ yX1_init wsX1_init rmX1_init [.ref (h), .ref (kd)] [(h, ob 1 [.null, .null, .int (iN (0)), .int (iN (0)), .null, .null, .null, .null, .null, .null, .null, .null, .null])] (fun w_ => ∃ q1, ∃ q2, ∃ q3, ∃ q4, ∃ q5, ∃ q6, ∃ q7, ∃ q8, ∃ q9, ∃ q10, w_ = [(h, ob 1 [.ref (kd), .ref (q1), .int (iN (0)), .int (iN (0)), .ref (q2), .ref (q3), .ref (q4), .ref (q5), .ref (q6), .ref (q7), .ref (q8), .ref (q9), .ref (q10)]), (q1, aI γ 15 (fun _ => 5)), (q2, aI γ 6 (fun _ => 0)), (q3, aI γ 6 (fun _ => 0)), (q4, aI γ 6 (fun _ => 0)), (q5, aI γ 6 (fun _ => 0)), (q6, aI γ 6 (fun _ => 0)), (q7, aI γ 6 (fun _ => 0)), (q8, aI γ 6 (fun _ => 0)), (q9, aI γ 6 (fun _ => 0)), (q10, aI γ 15 (fun _ => 0))]) 10 78 := by
  refine MV.of (cc := cX1_init) (maxL := 2) RX1 rfl (by decide +kernel) rfl (Nat.le_of_ble_eq_true rfl) ?_
  intro X C hγ hl hnm hret
  subst hγ
  have hinit : X.meth.name = "<init>" := hnm
  show Wx X 0 0 [(h, ob 1 [.null, .null, .int (iN (0)), .int (iN (0)), .null, .null, .null, .null, .null, .null, .null, .null, .null])] 0 [(0, .ref (h)), (1, .ref (kd))] []
  refine x_aload_n C 0 rfl rfl dX1_init_0 ?_
  refine x_objInit C (List.mem_of_getElem? (i := 1) rfl) (List.mem_of_getElem? (i := 2) rfl) (List.mem_of_getElem? (i := 3) rfl) rfl dX1_init_1 ?_
  refine x_aload_n C 0 rfl rfl dX1_init_4 ?_
  refine x_bipush C (15) (by decide) dX1_init_5 ?_
  refine x_newaI C 15 rfl rfl (List.mem_of_getElem? (i := 4) rfl) rfl dX1_init_7 (fun q1 => ?_)
  show Wx X 1 15 [(h, ob 1 [.null, .null, .int (iN (0)), .int (iN (0)), .null, .null, .null, .null, .null, .null, .null, .null, .null]), (q1, aI X.γ 15 (fun _ => 0))] 9 [(0, .ref (h)), (1, .ref (kd))] [.ref (q1), .ref (h)]
  refine x_putF C hinit in_X1_init_X1 tyX1 tyX1_ok nmX1 0 rfl rfl 1 (by decide) (List.mem_of_getElem? (i := 5) rfl) rfl rfl rfl rfl rfl rfl (Nat.le_of_ble_eq_true rfl) [(h, ob 1 [.null, .ref (q1), .int (iN (0)), .int (iN (0)), .null, .null, .null, .null, .null, .null, .null, .null, .null]), (q1, aI X.γ 15 (fun _ => 0))] rfl dX1_init_9 ?_
  refine x_aload_n C 0 rfl rfl dX1_init_12 ?_
  refine x_bipush C (6) (by decide) dX1_init_13 ?_
  refine x_newaI C 6 rfl rfl (List.mem_of_getElem? (i := 4) rfl) rfl dX1_init_15 (fun q2 => ?_)
  show Wx X 2 21 [(h, ob 1 [.null, .ref (q1), .int (iN (0)), .int (iN (0)), .null, .null, .null, .null, .null, .null, .null, .null, .null]), (q1, aI X.γ 15 (fun _ => 0)), (q2, aI X.γ 6 (fun _ => 0))] 17 [(0, .ref (h)), (1, .ref (kd))] [.ref (q2), .ref (h)]
  refine x_putF C hinit in_X1_init_X1 tyX1 tyX1_ok nmX1 0 rfl rfl 4 (by decide) (List.mem_of_getElem? (i := 6) rfl) rfl rfl rfl rfl rfl rfl (Nat.le_of_ble_eq_true rfl) [(h, ob 1 [.null, .ref (q1), .int (iN (0)), .int (iN (0)), .ref (q2), .null, .null, .null, .null, .null, .null, .null, .null]), (q1, aI X.γ 15 (fun _ => 0)), (q2, aI X.γ 6 (fun _ => 0))] rfl dX1_init_17 ?_
  refine x_aload_n C 0 rfl rfl dX1_init_20 ?_
  refine x_bipush C (6) (by decide) dX1_init_21 ?_
  refine x_newaI C 6 rfl rfl (List.mem_of_getElem? (i := 4) rfl) rfl dX1_init_23 (fun q3 => ?_)
  show Wx X 3 27 [(h, ob 1 [.null, .ref (q1), .int (iN (0)), .int (iN (0)), .ref (q2), .null, .null, .null, .null, .null, .null, .null, .null]), (q1, aI X.γ 15 (fun _ => 0)), (q2, aI X.γ 6 (fun _ => 0)), (q3, aI X.γ 6 (fun _ => 0))] 25 [(0, .ref (h)), (1, .ref (kd))] [.ref (q3), .ref (h)]
  refine x_putF C hinit in_X1_init_X1 tyX1 tyX1_ok nmX1 0 rfl rfl 5 (by decide) (List.mem_of_getElem? (i := 7) rfl) rfl rfl rfl rfl rfl rfl (Nat.le_of_ble_eq_true rfl) [(h, ob 1 [.null, .ref (q1), .int (iN (0)), .int (iN (0)), .ref (q2), .ref (q3), .null, .null, .null, .null, .null, .null, .null]), (q1, aI X.γ 15 (fun _ => 0)), (q2, aI X.γ 6 (fun _ => 0)), (q3, aI X.γ 6 (fun _ => 0))] rfl dX1_init_25 ?_
  refine x_aload_n C 0 rfl rfl dX1_init_28 ?_
  refine x_bipush C (6) (by decide) dX1_init_29 ?_
  refine x_newaI C 6 rfl rfl (List.mem_of_getElem? (i := 4) rfl) rfl dX1_init_31 (fun q4 => ?_)
  show Wx X 4 33 [(h, ob 1 [.null, .ref (q1), .int (iN (0)), .int (iN (0)), .ref (q2), .ref (q3), .null, .null, .null, .null, .null, .null, .null]), (q1, aI X.γ 15 (fun _ => 0)), (q2, aI X.γ 6 (fun _ => 0)), (q3, aI X.γ 6 (fun _ => 0)), (q4, aI X.γ 6 (fun _ => 0))] 33 [(0, .ref (h)), (1, .ref (kd))] [.ref (q4), .ref (h)]
  refine x_putF C hinit in_X1_init_X1 tyX1 tyX1_ok nmX1 0 rfl rfl 6 (by decide) (List.mem_of_getElem? (i := 8) rfl) rfl rfl rfl rfl rfl rfl (Nat.le_of_ble_eq_true rfl) [(h, ob 1 [.null, .ref (q1), .int (iN (0)), .int (iN (0)), .ref (q2), .ref (q3), .ref (q4), .null, .null, .null, .null, .null, .null]), (q1, aI X.γ 15 (fun _ => 0)), (q2, aI X.γ 6 (fun _ => 0)), (q3, aI X.γ 6 (fun _ => 0)), (q4, aI X.γ 6 (fun _ => 0))] rfl dX1_init_33 ?_
  refine x_aload_n C 0 rfl rfl dX1_init_36 ?_
  refine x_bipush C (6) (by decide) dX1_init_37 ?_
  refine x_newaI C 6 rfl rfl (List.mem_of_getElem? (i := 4) rfl) rfl dX1_init_39 (fun q5 => ?_)
  show Wx X 5 39 [(h, ob 1 [.null, .ref (q1), .int (iN (0)), .int (iN (0)), .ref (q2), .ref (q3), .ref (q4), .null, .null, .null, .null, .null, .null]), (q1, aI X.γ 15 (fun _ => 0)), (q2, aI X.γ 6 (fun _ => 0)), (q3, aI X.γ 6 (fun _ => 0)), (q4, aI X.γ 6 (fun _ => 0)), (q5, aI X.γ 6 (fun _ => 0))] 41 [(0, .ref (h)), (1, .ref (kd))] [.ref (q5), .ref (h)]
  refine x_putF C hinit in_X1_init_X1 tyX1 tyX1_ok nmX1 0 rfl rfl 7 (by decide) (List.mem_of_getElem? (i := 9) rfl) rfl rfl rfl rfl rfl rfl (Nat.le_of_ble_eq_true rfl) [(h, ob 1 [.null, .ref (q1), .int (iN (0)), .int (iN (0)), .ref (q2), .ref (q3), .ref (q4), .ref (q5), .null, .null, .null, .null, .null]), (q1, aI X.γ 15 (fun _ => 0)), (q2, aI X.γ 6 (fun _ => 0)), (q3, aI X.γ 6 (fun _ => 0)), (q4, aI X.γ 6 (fun _ => 0)), (q5, aI X.γ 6 (fun _ => 0))] rfl dX1_init_41 ?_
  refine x_aload_n C 0 rfl rfl dX1_init_44 ?_
  refine x_bipush C (6) (by decide) dX1_init_45 ?_
  refine x_newaI C 6 rfl rfl (List.mem_of_getElem? (i := 4) rfl) rfl dX1_init_47 (fun q6 => ?_)
  show Wx X 6 45 [(h, ob 1 [.null, .ref (q1), .int (iN (0)), .int (iN (0)), .ref (q2), .ref (q3), .ref (q4), .ref (q5), .null, .null, .null, .null, .null]), (q1, aI X.γ 15 (fun _ => 0)), (q2, aI X.γ 6 (fun _ => 0)), (q3, aI X.γ 6 (fun _ => 0)), (q4, aI X.γ 6 (fun _ => 0)), (q5, aI X.γ 6 (fun _ => 0)), (q6, aI X.γ 6 (fun _ => 0))] 49 [(0, .ref (h)), (1, .ref (kd))] [.ref (q6), .ref (h)]
  refine x_putF C hinit in_X1_init_X1 tyX1 tyX1_ok nmX1 0 rfl rfl 8 (by decide) (List.mem_of_getElem? (i := 10) rfl) rfl rfl rfl rfl rfl rfl (Nat.le_of_ble_eq_true rfl) [(h, ob 1 [.null, .ref (q1), .int (iN (0)), .int (iN (0)), .ref (q2), .ref (q3), .ref (q4), .ref (q5), .ref (q6), .null, .null, .null, .null]), (q1, aI X.γ 15 (fun _ => 0)), (q2, aI X.γ 6 (fun _ => 0)), (q3, aI X.γ 6 (fun _ => 0)), (q4, aI X.γ 6 (fun _ => 0)), (q5, aI X.γ 6 (fun _ => 0)), (q6, aI X.γ 6 (fun _ => 0))] rfl dX1_init_49 ?_
  refine x_aload_n C 0 rfl rfl dX1_init_52 ?_
  refine x_bipush C (6) (by decide) dX1_init_53 ?_
  refine x_newaI C 6 rfl rfl (List.mem_of_getElem? (i := 4) rfl) rfl dX1_init_55 (fun q7 => ?_)
  show Wx X 7 51 [(h, ob 1 [.null, .ref (q1), .int (iN (0)), .int (iN (0)), .ref (q2), .ref (q3), .ref (q4), .ref (q5), .ref (q6), .null, .null, .null, .null]), (q1, aI X.γ 15 (fun _ => 0)), (q2, aI X.γ 6 (fun _ => 0)), (q3, aI X.γ 6 (fun _ => 0)), (q4, aI X.γ 6 (fun _ => 0)), (q5, aI X.γ 6 (fun _ => 0)), (q6, aI X.γ 6 (fun _ => 0)), (q7, aI X.γ 6 (fun _ => 0))] 57 [(0, .ref (h)), (1, .ref (kd))] [.ref (q7), .ref (h)]
  refine x_putF C hinit in_X1_init_X1 tyX1 tyX1_ok nmX1 0 rfl rfl 9 (by decide) (List.mem_of_getElem? (i := 11) rfl) rfl rfl rfl rfl rfl rfl (Nat.le_of_ble_eq_true rfl) [(h, ob 1 [.null, .ref (q1), .int (iN (0)), .int (iN (0)), .ref (q2), .ref (q3), .ref (q4), .ref (q5), .ref (q6), .ref (q7), .null, .null, .null]), (q1, aI X.γ 15 (fun _ => 0)), (q2, aI X.γ 6 (fun _ => 0)), (q3, aI X.γ 6 (fun _ => 0)), (q4, aI X.γ 6 (fun _ => 0)), (q5, aI X.γ 6 (fun _ => 0)), (q6, aI X.γ 6 (fun _ => 0)), (q7, aI X.γ 6 (fun _ => 0))] rfl dX1_init_57 ?_
  refine x_aload_n C 0 rfl rfl dX1_init_60 ?_
  refine x_bipush C (6) (by decide) dX1_init_61 ?_
  refine x_newaI C 6 rfl rfl (List.mem_of_getElem? (i := 4) rfl) rfl dX1_init_63 (fun q8 => ?_)
  show Wx X 8 57 [(h, ob 1 [.null, .ref (q1), .int (iN (0)), .int (iN (0)), .ref (q2), .ref (q3), .ref (q4), .ref (q5), .ref (q6), .ref (q7), .null, .null, .null]), (q1, aI X.γ 15 (fun _ => 0)), (q2, aI X.γ 6 (fun _ => 0)), (q3, aI X.γ 6 (fun _ => 0)), (q4, aI X.γ 6 (fun _ => 0)), (q5, aI X.γ 6 (fun _ => 0)), (q6, aI X.γ 6 (fun _ => 0)), (q7, aI X.γ 6 (fun _ => 0)), (q8, aI X.γ 6 (fun _ => 0))] 65 [(0, .ref (h)), (1, .ref (kd))] [.ref (q8), .ref (h)]
  refine x_putF C hinit in_X1_init_X1 tyX1 tyX1_ok nmX1 0 rfl rfl 10 (by decide) (List.mem_of_getElem? (i := 12) rfl) rfl rfl rfl rfl rfl rfl (Nat.le_of_ble_eq_true rfl) [(h, ob 1 [.null, .ref (q1), .int (iN (0)), .int (iN (0)), .ref (q2), .ref (q3), .ref (q4), .ref (q5), .ref (q6), .ref (q7), .ref (q8), .null, .null]), (q1, aI X.γ 15 (fun _ => 0)), (q2, aI X.γ 6 (fun _ => 0)), (q3, aI X.γ 6 (fun _ => 0)), (q4, aI X.γ 6 (fun _ => 0)), (q5, aI X.γ 6 (fun _ => 0)), (q6, aI X.γ 6 (fun _ => 0)), (q7, aI X.γ 6 (fun _ => 0)), (q8, aI X.γ 6 (fun _ => 0))] rfl dX1_init_65 ?_
  refine x_aload_n C 0 rfl rfl dX1_init_68 ?_
  refine x_bipush C (6) (by decide) dX1_init_69 ?_
  refine x_newaI C 6 rfl rfl (List.mem_of_getElem? (i := 4) rfl) rfl dX1_init_71 (fun q9 => ?_)
  show Wx X 9 63 [(h, ob 1 [.null, .ref (q1), .int (iN (0)), .int (iN (0)), .ref (q2), .ref (q3), .ref (q4), .ref (q5), .ref (q6), .ref (q7), .ref (q8), .null, .null]), (q1, aI X.γ 15 (fun _ => 0)), (q2, aI X.γ 6 (fun _ => 0)), (q3, aI X.γ 6 (fun _ => 0)), (q4, aI X.γ 6 (fun _ => 0)), (q5, aI X.γ 6 (fun _ => 0)), (q6, aI X.γ 6 (fun _ => 0)), (q7, aI X.γ 6 (fun _ => 0)), (q8, aI X.γ 6 (fun _ => 0)), (q9, aI X.γ 6 (fun _ => 0))] 73 [(0, .ref (h)), (1, .ref (kd))] [.ref (q9), .ref (h)]
  refine x_putF C hinit in_X1_init_X1 tyX1 tyX1_ok nmX1 0 rfl rfl 11 (by decide) (List.mem_of_getElem? (i := 13) rfl) rfl rfl rfl rfl rfl rfl (Nat.le_of_ble_eq_true rfl) [(h, ob 1 [.null, .ref (q1), .int (iN (0)), .int (iN (0)), .ref (q2), .ref (q3), .ref (q4), .ref (q5), .ref (q6), .ref (q7), .ref (q8), .ref (q9), .null]), (q1, aI X.γ 15 (fun _ => 0)), (q2, aI X.γ 6 (fun _ => 0)), (q3, aI X.γ 6 (fun _ => 0)), (q4, aI X.γ 6 (fun _ => 0)), (q5, aI X.γ 6 (fun _ => 0)), (q6, aI X.γ 6 (fun _ => 0)), (q7, aI X.γ 6 (fun _ => 0)), (q8, aI X.γ 6 (fun _ => 0)), (q9, aI X.γ 6 (fun _ => 0))] rfl dX1_init_73 ?_
  refine x_aload_n C 0 rfl rfl dX1_init_76 ?_
  refine x_bipush C (15) (by decide) dX1_init_77 ?_
  refine x_newaI C 15 rfl rfl (List.mem_of_getElem? (i := 4) rfl) rfl dX1_init_79 (fun q10 => ?_)
  show Wx X 10 78 [(h, ob 1 [.null, .ref (q1), .int (iN (0)), .int (iN (0)), .ref (q2), .ref (q3), .ref (q4), .ref (q5), .ref (q6), .ref (q7), .ref (q8), .ref (q9), .null]), (q1, aI X.γ 15 (fun _ => 0)), (q2, aI X.γ 6 (fun _ => 0)), (q3, aI X.γ 6 (fun _ => 0)), (q4, aI X.γ 6 (fun _ => 0)), (q5, aI X.γ 6 (fun _ => 0)), (q6, aI X.γ 6 (fun _ => 0)), (q7, aI X.γ 6 (fun _ => 0)), (q8, aI X.γ 6 (fun _ => 0)), (q9, aI X.γ 6 (fun _ => 0)), (q10, aI X.γ 15 (fun _ => 0))] 81 [(0, .ref (h)), (1, .ref (kd))] [.ref (q10), .ref (h)]
  refine x_putF C hinit in_X1_init_X1 tyX1 tyX1_ok nmX1 0 rfl rfl 12 (by decide) (List.mem_of_getElem? (i := 14) rfl) rfl rfl rfl rfl rfl rfl (Nat.le_of_ble_eq_true rfl) [(h, ob 1 [.null, .ref (q1), .int (iN (0)), .int (iN (0)), .ref (q2), .ref (q3), .ref (q4), .ref (q5), .ref (q6), .ref (q7), .ref (q8), .ref (q9), .ref (q10)]), (q1, aI X.γ 15 (fun _ => 0)), (q2, aI X.γ 6 (fun _ => 0)), (q3, aI X.γ 6 (fun _ => 0)), (q4, aI X.γ 6 (fun _ => 0)), (q5, aI X.γ 6 (fun _ => 0)), (q6, aI X.γ 6 (fun _ => 0)), (q7, aI X.γ 6 (fun _ => 0)), (q8, aI X.γ 6 (fun _ => 0)), (q9, aI X.γ 6 (fun _ => 0)), (q10, aI X.γ 15 (fun _ => 0))] rfl dX1_init_81 ?_
  refine x_aload_n C 0 rfl rfl dX1_init_84 ?_
  refine x_aload_n C 1 rfl rfl dX1_init_85 ?_
  refine x_putF C hinit in_X1_init_X1 tyX1 tyX1_ok nmX1 0 rfl rfl 0 (by decide) (List.mem_of_getElem? (i := 15) rfl) rfl rfl rfl rfl rfl rfl (Nat.le_of_ble_eq_true rfl) [(h, ob 1 [.ref (kd), .ref (q1), .int (iN (0)), .int (iN (0)), .ref (q2), .ref (q3), .ref (q4), .ref (q5), .ref (q6), .ref (q7), .ref (q8), .ref (q9), .ref (q10)]), (q1, aI X.γ 15 (fun _ => 0)), (q2, aI X.γ 6 (fun _ => 0)), (q3, aI X.γ 6 (fun _ => 0)), (q4, aI X.γ 6 (fun _ => 0)), (q5, aI X.γ 6 (fun _ => 0)), (q6, aI X.γ 6 (fun _ => 0)), (q7, aI X.γ 6 (fun _ => 0)), (q8, aI X.γ 6 (fun _ => 0)), (q9, aI X.γ 6 (fun _ => 0)), (q10, aI X.γ 15 (fun _ => 0))] rfl dX1_init_86 ?_
  refine x_aload_n C 0 rfl rfl dX1_init_89 ?_
  refine x_get C in_X1_init_X1 0 rfl rfl 1 (by decide) (List.mem_of_getElem? (i := 5) rfl) rfl (v := .ref (q1)) rfl dX1_init_90 ?_
  refine x_iconst (v := 0) C dX1_init_93 ?_
  refine x_S_V C (As := [.ref (q1), .int (iN (5))]) (rest := []) 2 gX1_init_J7_fill_53178 ((c_J7_fill_53178 _ _ (q1) 15 (fun _ => 0) (5) (by decide)).app [(h, ob 1 [.ref (kd), .ref (q1), .int (iN (0)), .int (iN (0)), .ref (q2), .ref (q3), .ref (q4), .ref (q5), .ref (q6), .ref (q7), .ref (q8), .ref (q9), .ref (q10)])] [(q2, aI X.γ 6 (fun _ => 0)), (q3, aI X.γ 6 (fun _ => 0)), (q4, aI X.γ 6 (fun _ => 0)), (q5, aI X.γ 6 (fun _ => 0)), (q6, aI X.γ 6 (fun _ => 0)), (q7, aI X.γ 6 (fun _ => 0)), (q8, aI X.γ 6 (fun _ => 0)), (q9, aI X.γ 6 (fun _ => 0)), (q10, aI X.γ 15 (fun _ => 0))]) rfl ok_J7_fill_53178 rfl rfl rfl rfl dX1_init_94 (fun w1 hp => ?_)
  obtain ⟨_, rfl, rfl⟩ := hp
  refine Wx.eqW (ws' := [(h, ob 1 [.ref (kd), .ref (q1), .int (iN (0)), .int (iN (0)), .ref (q2), .ref (q3), .ref (q4), .ref (q5), .ref (q6), .ref (q7), .ref (q8), .ref (q9), .ref (q10)]), (q1, aI X.γ 15 (fun _ => 5)), (q2, aI X.γ 6 (fun _ => 0)), (q3, aI X.γ 6 (fun _ => 0)), (q4, aI X.γ 6 (fun _ => 0)), (q5, aI X.γ 6 (fun _ => 0)), (q6, aI X.γ 6 (fun _ => 0)), (q7, aI X.γ 6 (fun _ => 0)), (q8, aI X.γ 6 (fun _ => 0)), (q9, aI X.γ 6 (fun _ => 0)), (q10, aI X.γ 15 (fun _ => 0))]) rfl ?_
  exact hret _ _ _ dX1_init_97 ⟨q1, q2, q3, q4, q5, q6, q7, q8, q9, q10, rfl⟩
end HCTOaj
