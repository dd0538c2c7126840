section HX10
theorem ok_X6_fail : okY yX6_fail 1 := by decide +kernel
def rmX6_fail : Room := { frames := 0, cells := 0, slots := 0, locals := 0 }
set_option maxRecDepth 100000 in
set_option maxHeartbeats 400000 in
theorem c_X6_fail (l : Launch) (γ : GX) (w0 : va_W) (b : Nat) (fg : Int) : MV l γ yX6_fail wsX6_fail rmX6_fail [.ref (b), .int (iN (fg))] w0 (fun w_ => w_ = w0) 0 0 := by
  refine MV.of (cc := cX6_fail) (maxL := 2) RX6 rfl (by decide +kernel) rfl (Nat.le_of_ble_eq_true rfl) ?_
  intro X C hγ hl hnm hret
  subst hγ
  show Wx X 0 0 w0 0 [(0, .ref (b)), (1, .int (iN (fg)))] []
  exact hret _ _ _ dX6_fail_0 rfl
theorem ok_X9_fail : okY yX9_fail 1 := by decide +kernel
def rmX9_fail : Room := { frames := 6, cells := 1, slots := 6, locals := 82 }
set_option maxRecDepth 100000 in
set_option maxHeartbeats 400000 in
theorem c_X9_fail (l : Launch) (hst : l.stackTraces = false) (γ : GX) (w0 : va_W) (b : Nat) (fg : Int) (hfg : 0 ≤ fg ∧ fg ≤ 9) : MVx l γ yX9_fail wsX9_fail rmX9_fail [.ref (b), .int (iN (fg))] w0 (fun w_ => w_ = w0 ∧ fg = 0) (fun E_ w_ => E_ = "java/lang/IllegalStateException" ∧ w_ = w0 ∧ fg ≠ 0) 1 6 := by
  refine MVx.of (cc := cX9_fail) (maxL := 2) RX9 rfl (by decide +kernel) rfl (Nat.le_of_ble_eq_true rfl) ?_
  intro X C hγ hl hnm hz hT hret
  subst hγ
  show Wx X 0 0 w0 0 [(0, .ref (b)), (1, .int (iN (fg)))] []
  refine x_iload_n C 1 rfl rfl dX9_fail_0 ?_
  refine x_if_eq C 14 (by decide) (by omega) dX9_fail_1 (fun c_1 => ?_) (fun c_1 => ?_)
  · refine Wx.widen (k' := 1) (n' := 6) (by decide) (by decide) ?_
    exact hret _ _ _ dX9_fail_14 ⟨rfl, c_1⟩
  · exact x_throwS C hT (show X.l.stackTraces = false by rw [hl]; exact hst) hz (cls := "java/lang/IllegalStateException") (text := "a walker fails") (names := ["java/lang/RuntimeException", "java/lang/Exception"]) (ik := 7) (is := 9) (ic := 11) (by decide +kernel) (by decide +kernel) (List.mem_of_getElem? (i := 1) rfl) (List.mem_of_getElem? (i := 2) rfl) hz.2.1.1 (fun w hw => List.mem_cons_of_mem _ (List.mem_append_right _ hw)) (by decide +kernel) (hz.2.2.2.1 ("java/lang/IllegalStateException", "java/lang/IllegalStateException") (by decide +kernel)) (by decide +kernel) rfl ⟨rfl, rfl, c_1⟩ dX9_fail_4 dX9_fail_7 dX9_fail_8 dX9_fail_10 dX9_fail_13
theorem in_X11_toss_X1 : ∀ w ∈ u_ws RX1 TX1 13, w ∈ wsX11_toss := by decide +kernel
theorem in_X11_toss_X11 : ∀ w ∈ u_ws RX11 TX11 6, w ∈ wsX11_toss := by decide +kernel
theorem in_X11_toss_X5 : ∀ w ∈ u_ws RX5 TX5 6, w ∈ wsX11_toss := by decide +kernel
theorem ok_X11_toss : okY yX11_toss 1 := by decide +kernel
def rmX11_toss : Room := { frames := 7, cells := 1, slots := 6, locals := 103 }
set_option maxRecDepth 100000 in
set_option maxHeartbeats 400000 in
theorem c_X11_toss (l : Launch) (hst : l.stackTraces = false) (γ : GX) (b : Nat → Nat) (F : Nat → Sh) (N M P : Ct) (hp sd : Int) (hN : WFc N) (hF : ∀ t : Nat, t < 8 → WFs (F t)) (d : Int) (h0_ : -2147483648 ≤ d ∧ d < 2147483648) : MIz l γ yX11_toss wsX11_toss rmX11_toss [.ref (b 0), .int (iN (d))] (WX γ b F N M P hp sd) (fun r_ w_ => r_ = q_wr d (Sh.hd (F d.toNat)) 1 (q_ths (Sh.kd (F d.toNat)) (Sh.fg (F d.toNat))) ∧ Wc γ b F N P hp w_) 1 6 := by
  refine MIz.ofW (cc := cX11_toss) (maxL := 5) (rt := .int) RX11 rfl (by decide +kernel) rfl (Nat.le_of_ble_eq_true rfl) ?_
  intro X C hγ hl hnm hz htab hret
  subst hγ
  have hNn := WFc.n hN
  show Wx X 0 0 (WX X.γ b F N M P hp sd) 0 [(0, .ref (b 0)), (1, .int (iN (d)))] []
  refine x_aload_n C 0 rfl rfl dX11_toss_0 ?_
  refine x_iload_n C 1 rfl rfl dX11_toss_1 ?_
  refine x_V_I C (As := [.int (iN (d))]) (rest := []) 1 0 rfl rfl gX11_toss_X11_kindRefusal rfl (c_X11_kindRefusal _ _ b F N M P hp sd hN hF (d) (by omega)) rfl ok_X11_kindRefusal rfl rfl rfl rfl dX11_toss_2 (fun r w1 hp => ?_)
  obtain ⟨rfl, rfl⟩ := hp
  show Wx X 0 0 (WX X.γ b F N M P hp sd) 5 [(0, .ref (b 0)), (1, .int (iN (d)))] [.int (iN (if 0 ≤ d ∧ d ≤ 7 then (if Sh.hd (F d.toNat) = 0 then -11 else if Sh.hd (F d.toNat) = 1 then 0 else -12) else -1))]
  refine x_istore_n C [(2, .int (iN (if 0 ≤ d ∧ d ≤ 7 then (if Sh.hd (F d.toNat) = 0 then -11 else if Sh.hd (F d.toNat) = 1 then 0 else -12) else -1))), (0, .ref (b 0)), (1, .int (iN (d)))] rfl (by decide) rfl dX11_toss_5 ?_
  refine x_iload_n C 0 rfl rfl dX11_toss_6 ?_
  refine x_if_ge C 12 (by decide) (by omega) dX11_toss_7 (fun c_7 => ?_) (fun c_7 => ?_)
  · have hFd := hF d.toNat (by omega)
    have hFk : 0 ≤ Sh.kd (F d.toNat) ∧ Sh.kd (F d.toNat) ≤ 7 := hFd.2.1
    have hFf : 0 ≤ Sh.fg (F d.toNat) ∧ Sh.fg (F d.toNat) ≤ 9 := hFd.2.2.1
    refine x_aload_n C 1 rfl rfl dX11_toss_12 ?_
    refine x_get C in_X11_toss_X11 0 rfl rfl 1 (by decide) (List.mem_of_getElem? (i := 2) rfl) rfl (v := .ref (b 27)) rfl dX11_toss_13 ?_
    refine x_get C in_X11_toss_X1 27 rfl rfl 0 (by decide) (List.mem_of_getElem? (i := 3) rfl) rfl (v := .ref (b 18)) rfl dX11_toss_16 ?_
    refine x_aload_n C 1 rfl rfl dX11_toss_19 ?_
    refine x_get C in_X11_toss_X11 0 rfl rfl 0 (by decide) (List.mem_of_getElem? (i := 4) rfl) rfl (v := .ref (b 1)) rfl dX11_toss_20 ?_
    refine x_iload_n C 2 rfl rfl dX11_toss_23 ?_
    refine x_aaload C (f := fun k => some (b (2 + 2 * k.toNat))) (b := b (2 + 2 * d.toNat)) 1 rfl (by omega) rfl rfl dX11_toss_24 ?_
    refine x_get C in_X11_toss_X5 (2 + 2 * d.toNat) (WX_so _ _ _ _ _ _ _ (show d.toNat < 8 by omega)) rfl 1 (by decide) (List.mem_of_getElem? (i := 5) rfl) rfl (v := .int (iN (Sh.kd (F d.toNat)))) rfl dX11_toss_25 ?_
    refine x_aaloadW C (f := fun k => some (b (19 + k.toNat))) (b := b (19 + (Sh.kd (F d.toNat)).toNat)) 18 rfl (by omega) rfl rfl dX11_toss_28 ?_
    refine x_astore_n C [(3, .ref (b (19 + (Sh.kd (F d.toNat)).toNat))), (2, .int (iN (if 0 ≤ d ∧ d ≤ 7 then (if Sh.hd (F d.toNat) = 0 then -11 else if Sh.hd (F d.toNat) = 1 then 0 else -12) else -1))), (0, .ref (b 0)), (1, .int (iN (d)))] rfl (by decide) rfl dX11_toss_29 ?_
    refine x_aload_n C 0 rfl rfl dX11_toss_30 ?_
    refine x_aload_n C 2 rfl rfl dX11_toss_31 ?_
    refine x_get C in_X11_toss_X11 0 rfl rfl 0 (by decide) (List.mem_of_getElem? (i := 4) rfl) rfl (v := .ref (b 1)) rfl dX11_toss_32 ?_
    refine x_iload_n C 3 rfl rfl dX11_toss_35 ?_
    refine x_aaload C (f := fun k => some (b (2 + 2 * k.toNat))) (b := b (2 + 2 * d.toNat)) 1 rfl (by omega) rfl rfl dX11_toss_36 ?_
    refine x_get C in_X11_toss_X5 (2 + 2 * d.toNat) (WX_so _ _ _ _ _ _ _ (show d.toNat < 8 by omega)) rfl 2 (by decide) (List.mem_of_getElem? (i := 6) rfl) rfl (v := .int (iN (Sh.fg (F d.toNat)))) rfl dX11_toss_37 ?_
    have J43 : ((Sh.kd (F d.toNat)) = 3 ∨ (Sh.kd (F d.toNat)) = 4 ∨ (Sh.fg (F d.toNat)) = 0) → Wx X 1 6 (WX X.γ b F N M P hp sd) 43 [(3, .ref (b (19 + (Sh.kd (F d.toNat)).toNat))), (2, .int (iN (if 0 ≤ d ∧ d ≤ 7 then (if Sh.hd (F d.toNat) = 0 then -11 else if Sh.hd (F d.toNat) = 1 then 0 else -12) else -1))), (0, .ref (b 0)), (1, .int (iN (d)))] [] := by
      intro hno
      refine x_goto C 62 (by decide) dX11_toss_43 ?_
      refine x_bipush C (-15) (by decide) dX11_toss_62 ?_
      exact hret _ _ _ _ dX11_toss_64 rfl ⟨(by unfold q_wr; rw [if_pos (show 0 ≤ d ∧ d ≤ 7 by omega), if_neg (show ¬ Sh.hd (F d.toNat) = 0 by omega), if_pos (show Sh.hd (F d.toNat) = 1 by omega)]; unfold q_ths; rw [if_pos hno]), ⟨(Ct.wa N), (Ct.wa P), _, _, rfl⟩⟩
    have J46 : ¬ ((Sh.kd (F d.toNat)) = 3 ∨ (Sh.kd (F d.toNat)) = 4 ∨ (Sh.fg (F d.toNat)) = 0) → ∀ q : Nat, Wx X 1 6 (WX X.γ b F N M P hp sd) 46 [(3, .ref (b (19 + (Sh.kd (F d.toNat)).toNat))), (2, .int (iN (if 0 ≤ d ∧ d ≤ 7 then (if Sh.hd (F d.toNat) = 0 then -11 else if Sh.hd (F d.toNat) = 1 then 0 else -12) else -1))), (0, .ref (b 0)), (1, .int (iN (d)))] [.ref (q)] := by
      intro hno q
      refine x_astore C [(4, .ref (q)), (3, .ref (b (19 + (Sh.kd (F d.toNat)).toNat))), (2, .int (iN (if 0 ≤ d ∧ d ≤ 7 then (if Sh.hd (F d.toNat) = 0 then -11 else if Sh.hd (F d.toNat) = 1 then 0 else -12) else -1))), (0, .ref (b 0)), (1, .int (iN (d)))] (by decide) rfl dX11_toss_46 ?_
      refine x_aload_n C 1 rfl rfl dX11_toss_48 ?_
      refine x_aload_n C 3 rfl rfl dX11_toss_49 ?_
      refine x_get C in_X11_toss_X11 0 rfl rfl 0 (by decide) (List.mem_of_getElem? (i := 4) rfl) rfl (v := .ref (b 1)) rfl dX11_toss_50 ?_
      refine x_iload_n C 4 rfl rfl dX11_toss_53 ?_
      refine x_aaload C (f := fun k => some (b (2 + 2 * k.toNat))) (b := b (2 + 2 * d.toNat)) 1 rfl (by omega) rfl rfl dX11_toss_54 ?_
      refine x_get C in_X11_toss_X5 (2 + 2 * d.toNat) (WX_so _ _ _ _ _ _ _ (show d.toNat < 8 by omega)) rfl 2 (by decide) (List.mem_of_getElem? (i := 6) rfl) rfl (v := .int (iN (Sh.fg (F d.toNat)))) rfl dX11_toss_55 ?_
      have J58 : Wx X 1 6 (WX X.γ b F N M P hp sd) 61 [(4, .ref (q)), (3, .ref (b (19 + (Sh.kd (F d.toNat)).toNat))), (2, .int (iN (if 0 ≤ d ∧ d ≤ 7 then (if Sh.hd (F d.toNat) = 0 then -11 else if Sh.hd (F d.toNat) = 1 then 0 else -12) else -1))), (0, .ref (b 0)), (1, .int (iN (d)))] [.int (iN (faF (Sh.kd (F d.toNat)) (Sh.fg (F d.toNat))))] → Wx X 1 6 (WX X.γ b F N M P hp sd) 58 [(4, .ref (q)), (3, .ref (b (19 + (Sh.kd (F d.toNat)).toNat))), (2, .int (iN (if 0 ≤ d ∧ d ≤ 7 then (if Sh.hd (F d.toNat) = 0 then -11 else if Sh.hd (F d.toNat) = 1 then 0 else -12) else -1))), (0, .ref (b 0)), (1, .int (iN (d)))] [.int (iN (Sh.fg (F d.toNat))), .ref (b (19 + (Sh.kd (F d.toNat)).toNat))] := by
        intro kk
        have hk : Sh.kd (F d.toNat) = 0 ∨ Sh.kd (F d.toNat) = 1 ∨ Sh.kd (F d.toNat) = 2 ∨ Sh.kd (F d.toNat) = 3 ∨ Sh.kd (F d.toNat) = 4 ∨ Sh.kd (F d.toNat) = 5 ∨ Sh.kd (F d.toNat) = 6 ∨ Sh.kd (F d.toNat) = 7 := by omega
        rcases hk with hk | hk | hk | hk | hk | hk | hk | hk
        · have e : faF (Sh.kd (F d.toNat)) (Sh.fg (F d.toNat)) = (Sh.fg (F d.toNat)) := by rw [hk]; rfl
          rw [e] at kk
          refine x_V_I C (As := [.int (iN (Sh.fg (F d.toNat)))]) (rest := []) (b := b (19 + (Sh.kd (F d.toNat)).toNat)) 1 19 (fs := []) (ci := 8) (by rw [hk]; rfl) rfl gX11_toss_X9_failureAsTold rfl (c_X9_failureAsTold _ _ (WX X.γ b F N M P hp sd) (q0 := 19) (b := b (19 + (Sh.kd (F d.toNat)).toNat)) (ci := 8) (Cn := RX9) (T := TX9) (N := 0) (fs := []) (by rw [hk]; rfl) rfl (Sh.fg (F d.toNat)) (by omega)) rfl ok_X9_failureAsTold rfl rfl rfl rfl dX11_toss_58 (fun r w1 hp => ?_)
          obtain ⟨rfl, rfl⟩ := hp
          exact kk
        · have e : faF (Sh.kd (F d.toNat)) (Sh.fg (F d.toNat)) = 100 + (Sh.fg (F d.toNat)) := by rw [hk]; rfl
          rw [e] at kk
          refine x_O_I C (As := [.int (iN (Sh.fg (F d.toNat)))]) (rest := []) (b := b (19 + (Sh.kd (F d.toNat)).toNat)) 1 20 (fs := []) (ci := 4) (by rw [hk]; rfl) rfl gX11_toss_X4_failureAsTold_u319X4 (h0 := (List.mem_of_getElem? (i := 61) rfl)) (by decide +kernel) (c_X4_failureAsTold _ _ (WX X.γ b F N M P hp sd) (q0 := 20) (b := b (19 + (Sh.kd (F d.toNat)).toNat)) (ci := 4) (Cn := RX4) (T := TX4) (N := 0) (fs := []) (by rw [hk]; rfl) rfl (Sh.fg (F d.toNat)) (by omega)) rfl ok_X4_failureAsTold rfl rfl rfl rfl dX11_toss_58 (fun r w1 hp => ?_)
          obtain ⟨rfl, rfl⟩ := hp
          exact kk
        · have e : faF (Sh.kd (F d.toNat)) (Sh.fg (F d.toNat)) = (Sh.fg (F d.toNat)) := by rw [hk]; rfl
          rw [e] at kk
          refine x_U_I C (As := [.int (iN (Sh.fg (F d.toNat)))]) (rest := []) (b := b (19 + (Sh.kd (F d.toNat)).toNat)) 1 21 (fs := []) (ci := 3) (by rw [hk]; rfl) rfl gX11_toss_X9_failureAsTold_u319X3 rfl (by decide +kernel) (c_X9_failureAsTold _ _ (WX X.γ b F N M P hp sd) (q0 := 21) (b := b (19 + (Sh.kd (F d.toNat)).toNat)) (ci := 3) (Cn := RX3) (T := TX3) (N := 0) (fs := []) (by rw [hk]; rfl) rfl (Sh.fg (F d.toNat)) (by omega)) rfl ok_X9_failureAsTold rfl rfl rfl rfl dX11_toss_58 (fun r w1 hp => ?_)
          obtain ⟨rfl, rfl⟩ := hp
          exact kk
        · have e : faF (Sh.kd (F d.toNat)) (Sh.fg (F d.toNat)) = (Sh.fg (F d.toNat)) := by rw [hk]; rfl
          rw [e] at kk
          refine x_U_I C (As := [.int (iN (Sh.fg (F d.toNat)))]) (rest := []) (b := b (19 + (Sh.kd (F d.toNat)).toNat)) 1 22 (fs := []) (ci := 6) (by rw [hk]; rfl) rfl gX11_toss_X9_failureAsTold_u319X6 rfl (by decide +kernel) (c_X9_failureAsTold _ _ (WX X.γ b F N M P hp sd) (q0 := 22) (b := b (19 + (Sh.kd (F d.toNat)).toNat)) (ci := 6) (Cn := RX6) (T := TX6) (N := 0) (fs := []) (by rw [hk]; rfl) rfl (Sh.fg (F d.toNat)) (by omega)) rfl ok_X9_failureAsTold rfl rfl rfl rfl dX11_toss_58 (fun r w1 hp => ?_)
          obtain ⟨rfl, rfl⟩ := hp
          exact kk
        · have e : faF (Sh.kd (F d.toNat)) (Sh.fg (F d.toNat)) = (Sh.fg (F d.toNat)) := by rw [hk]; rfl
          rw [e] at kk
          refine x_U_I C (As := [.int (iN (Sh.fg (F d.toNat)))]) (rest := []) (b := b (19 + (Sh.kd (F d.toNat)).toNat)) 1 23 (fs := []) (ci := 2) (by rw [hk]; rfl) rfl gX11_toss_X9_failureAsTold_u319X2 rfl (by decide +kernel) (c_X9_failureAsTold _ _ (WX X.γ b F N M P hp sd) (q0 := 23) (b := b (19 + (Sh.kd (F d.toNat)).toNat)) (ci := 2) (Cn := RX2) (T := TX2) (N := 0) (fs := []) (by rw [hk]; rfl) rfl (Sh.fg (F d.toNat)) (by omega)) rfl ok_X9_failureAsTold rfl rfl rfl rfl dX11_toss_58 (fun r w1 hp => ?_)
          obtain ⟨rfl, rfl⟩ := hp
          exact kk
        · have e : faF (Sh.kd (F d.toNat)) (Sh.fg (F d.toNat)) = 200 + 2 * (3 + (Sh.fg (F d.toNat))) := by rw [hk]; rfl
          rw [e] at kk
          refine x_O_I C (As := [.int (iN (Sh.fg (F d.toNat)))]) (rest := []) (b := b (19 + (Sh.kd (F d.toNat)).toNat)) 1 24 (fs := []) (ci := 0) (by rw [hk]; rfl) rfl gX11_toss_X0_failureAsTold_u319X0 (h0 := (List.mem_of_getElem? (i := 61) rfl)) (by decide +kernel) (c_X0_failureAsTold _ _ (WX X.γ b F N M P hp sd) (q0 := 24) (b := b (19 + (Sh.kd (F d.toNat)).toNat)) (fs := []) (by rw [hk]; rfl) (Sh.fg (F d.toNat)) (by omega)) rfl ok_X0_failureAsTold rfl rfl rfl rfl dX11_toss_58 (fun r w1 hp => ?_)
          obtain ⟨rfl, rfl⟩ := hp
          exact kk
        · have e : faF (Sh.kd (F d.toNat)) (Sh.fg (F d.toNat)) = (Sh.fg (F d.toNat)) := by rw [hk]; rfl
          rw [e] at kk
          refine x_U_I C (As := [.int (iN (Sh.fg (F d.toNat)))]) (rest := []) (b := b (19 + (Sh.kd (F d.toNat)).toNat)) 1 25 (fs := []) (ci := 7) (by rw [hk]; rfl) rfl gX11_toss_X9_failureAsTold_u319X8 rfl (by decide +kernel) (c_X9_failureAsTold _ _ (WX X.γ b F N M P hp sd) (q0 := 25) (b := b (19 + (Sh.kd (F d.toNat)).toNat)) (ci := 7) (Cn := RX8) (T := TX8) (N := 0) (fs := []) (by rw [hk]; rfl) rfl (Sh.fg (F d.toNat)) (by omega)) rfl ok_X9_failureAsTold rfl rfl rfl rfl dX11_toss_58 (fun r w1 hp => ?_)
          obtain ⟨rfl, rfl⟩ := hp
          exact kk
        · have e : faF (Sh.kd (F d.toNat)) (Sh.fg (F d.toNat)) = (Sh.fg (F d.toNat)) := by rw [hk]; rfl
          rw [e] at kk
          refine x_U_I C (As := [.int (iN (Sh.fg (F d.toNat)))]) (rest := []) (b := b (19 + (Sh.kd (F d.toNat)).toNat)) 1 26 (fs := []) (ci := 9) (by rw [hk]; rfl) rfl gX11_toss_X9_failureAsTold_u319X10 rfl (by decide +kernel) (c_X9_failureAsTold _ _ (WX X.γ b F N M P hp sd) (q0 := 26) (b := b (19 + (Sh.kd (F d.toNat)).toNat)) (ci := 9) (Cn := RX10) (T := TX10) (N := 0) (fs := []) (by rw [hk]; rfl) rfl (Sh.fg (F d.toNat)) (by omega)) rfl ok_X9_failureAsTold rfl rfl rfl rfl dX11_toss_58 (fun r w1 hp => ?_)
          obtain ⟨rfl, rfl⟩ := hp
          exact kk
      refine J58 ?_
      exact hret _ _ _ _ dX11_toss_61 rfl ⟨(by unfold q_wr; rw [if_pos (show 0 ≤ d ∧ d ≤ 7 by omega), if_neg (show ¬ Sh.hd (F d.toNat) = 0 by omega), if_pos (show Sh.hd (F d.toNat) = 1 by omega)]; unfold q_ths; rw [if_neg hno]), ⟨(Ct.wa N), (Ct.wa P), _, _, rfl⟩⟩
    have hk : (Sh.kd (F d.toNat)) = 0 ∨ (Sh.kd (F d.toNat)) = 1 ∨ (Sh.kd (F d.toNat)) = 2 ∨ (Sh.kd (F d.toNat)) = 3 ∨ (Sh.kd (F d.toNat)) = 4 ∨ (Sh.kd (F d.toNat)) = 5 ∨ (Sh.kd (F d.toNat)) = 6 ∨ (Sh.kd (F d.toNat)) = 7 := by omega
    rcases hk with hk | hk | hk | hk | hk | hk | hk | hk
    · refine x_V_Vx C hz (As := [.int (iN (Sh.fg (F d.toNat)))]) (rest := []) (b := b (19 + (Sh.kd (F d.toNat)).toNat)) 1 19 (fs := []) (ci := 8) (by rw [hk]; rfl) rfl gX11_toss_X9_fail rfl (c_X9_fail _ (show X.l.stackTraces = false by rw [hl]; exact hst) _ (WX X.γ b F N M P hp sd) (b (19 + (Sh.kd (F d.toNat)).toNat)) (Sh.fg (F d.toNat)) (by omega)) rfl ok_X9_fail rfl rfl rfl rfl dX11_toss_40 (fun E w1 hp => ?_) (fun w1 hp => ?_)
      · obtain ⟨rfl, rfl, hne⟩ := hp
        refine x_catch C htab (pc := 40) [] ⟨30, 43, 46, 293⟩ [] rfl (fun z h => nomatch h) (by decide) (by decide) (List.mem_of_getElem? (i := 1) rfl) (hz.2.2.2.1 ("java/lang/IllegalStateException", "java/lang/IllegalStateException") (by decide +kernel)) (hp := 46) rfl ?_
        exact J46 (by omega)
      · obtain ⟨rfl, h0⟩ := hp
        exact J43 (by omega)
    · refine x_U_Vx C hz (As := [.int (iN (Sh.fg (F d.toNat)))]) (rest := []) (b := b (19 + (Sh.kd (F d.toNat)).toNat)) 1 20 (fs := []) (ci := 4) (by rw [hk]; rfl) rfl gX11_toss_X9_fail_u316X4 rfl (by decide +kernel) (c_X9_fail _ (show X.l.stackTraces = false by rw [hl]; exact hst) _ (WX X.γ b F N M P hp sd) (b (19 + (Sh.kd (F d.toNat)).toNat)) (Sh.fg (F d.toNat)) (by omega)) rfl ok_X9_fail rfl rfl rfl rfl dX11_toss_40 (fun E w1 hp => ?_) (fun w1 hp => ?_)
      · obtain ⟨rfl, rfl, hne⟩ := hp
        refine x_catch C htab (pc := 40) [] ⟨30, 43, 46, 293⟩ [] rfl (fun z h => nomatch h) (by decide) (by decide) (List.mem_of_getElem? (i := 1) rfl) (hz.2.2.2.1 ("java/lang/IllegalStateException", "java/lang/IllegalStateException") (by decide +kernel)) (hp := 46) rfl ?_
        exact J46 (by omega)
      · obtain ⟨rfl, h0⟩ := hp
        exact J43 (by omega)
    · refine x_U_Vx C hz (As := [.int (iN (Sh.fg (F d.toNat)))]) (rest := []) (b := b (19 + (Sh.kd (F d.toNat)).toNat)) 1 21 (fs := []) (ci := 3) (by rw [hk]; rfl) rfl gX11_toss_X9_fail_u316X3 rfl (by decide +kernel) (c_X9_fail _ (show X.l.stackTraces = false by rw [hl]; exact hst) _ (WX X.γ b F N M P hp sd) (b (19 + (Sh.kd (F d.toNat)).toNat)) (Sh.fg (F d.toNat)) (by omega)) rfl ok_X9_fail rfl rfl rfl rfl dX11_toss_40 (fun E w1 hp => ?_) (fun w1 hp => ?_)
      · obtain ⟨rfl, rfl, hne⟩ := hp
        refine x_catch C htab (pc := 40) [] ⟨30, 43, 46, 293⟩ [] rfl (fun z h => nomatch h) (by decide) (by decide) (List.mem_of_getElem? (i := 1) rfl) (hz.2.2.2.1 ("java/lang/IllegalStateException", "java/lang/IllegalStateException") (by decide +kernel)) (hp := 46) rfl ?_
        exact J46 (by omega)
      · obtain ⟨rfl, h0⟩ := hp
        exact J43 (by omega)
    · refine x_O_V C (As := [.int (iN (Sh.fg (F d.toNat)))]) (rest := []) (b := b (19 + (Sh.kd (F d.toNat)).toNat)) 1 22 (fs := []) (ci := 6) (by rw [hk]; rfl) rfl gX11_toss_X6_fail_u316X6 (h0 := (List.mem_of_getElem? (i := 24) rfl)) (by decide +kernel) (c_X6_fail _ _ (WX X.γ b F N M P hp sd) (b (19 + (Sh.kd (F d.toNat)).toNat)) (Sh.fg (F d.toNat))) rfl ok_X6_fail rfl rfl rfl rfl dX11_toss_40 (fun w1 hp => ?_)
      subst hp
      refine Wx.widen (k' := 1) (n' := 6) (by decide) (by decide) ?_
      exact J43 (by omega)
    · refine x_O_V C (As := [.int (iN (Sh.fg (F d.toNat)))]) (rest := []) (b := b (19 + (Sh.kd (F d.toNat)).toNat)) 1 23 (fs := []) (ci := 2) (by rw [hk]; rfl) rfl gX11_toss_X6_fail_u316X2 (h0 := (List.mem_of_getElem? (i := 24) rfl)) (by decide +kernel) (c_X6_fail _ _ (WX X.γ b F N M P hp sd) (b (19 + (Sh.kd (F d.toNat)).toNat)) (Sh.fg (F d.toNat))) rfl ok_X6_fail rfl rfl rfl rfl dX11_toss_40 (fun w1 hp => ?_)
      subst hp
      refine Wx.widen (k' := 1) (n' := 6) (by decide) (by decide) ?_
      exact J43 (by omega)
    · refine x_U_Vx C hz (As := [.int (iN (Sh.fg (F d.toNat)))]) (rest := []) (b := b (19 + (Sh.kd (F d.toNat)).toNat)) 1 24 (fs := []) (ci := 0) (by rw [hk]; rfl) rfl gX11_toss_X9_fail_u316X0 rfl (by decide +kernel) (c_X9_fail _ (show X.l.stackTraces = false by rw [hl]; exact hst) _ (WX X.γ b F N M P hp sd) (b (19 + (Sh.kd (F d.toNat)).toNat)) (Sh.fg (F d.toNat)) (by omega)) rfl ok_X9_fail rfl rfl rfl rfl dX11_toss_40 (fun E w1 hp => ?_) (fun w1 hp => ?_)
      · obtain ⟨rfl, rfl, hne⟩ := hp
        refine x_catch C htab (pc := 40) [] ⟨30, 43, 46, 293⟩ [] rfl (fun z h => nomatch h) (by decide) (by decide) (List.mem_of_getElem? (i := 1) rfl) (hz.2.2.2.1 ("java/lang/IllegalStateException", "java/lang/IllegalStateException") (by decide +kernel)) (hp := 46) rfl ?_
        exact J46 (by omega)
      · obtain ⟨rfl, h0⟩ := hp
        exact J43 (by omega)
    · refine x_U_Vx C hz (As := [.int (iN (Sh.fg (F d.toNat)))]) (rest := []) (b := b (19 + (Sh.kd (F d.toNat)).toNat)) 1 25 (fs := []) (ci := 7) (by rw [hk]; rfl) rfl gX11_toss_X9_fail_u316X8 rfl (by decide +kernel) (c_X9_fail _ (show X.l.stackTraces = false by rw [hl]; exact hst) _ (WX X.γ b F N M P hp sd) (b (19 + (Sh.kd (F d.toNat)).toNat)) (Sh.fg (F d.toNat)) (by omega)) rfl ok_X9_fail rfl rfl rfl rfl dX11_toss_40 (fun E w1 hp => ?_) (fun w1 hp => ?_)
      · obtain ⟨rfl, rfl, hne⟩ := hp
        refine x_catch C htab (pc := 40) [] ⟨30, 43, 46, 293⟩ [] rfl (fun z h => nomatch h) (by decide) (by decide) (List.mem_of_getElem? (i := 1) rfl) (hz.2.2.2.1 ("java/lang/IllegalStateException", "java/lang/IllegalStateException") (by decide +kernel)) (hp := 46) rfl ?_
        exact J46 (by omega)
      · obtain ⟨rfl, h0⟩ := hp
        exact J43 (by omega)
    · refine x_U_Vx C hz (As := [.int (iN (Sh.fg (F d.toNat)))]) (rest := []) (b := b (19 + (Sh.kd (F d.toNat)).toNat)) 1 26 (fs := []) (ci := 9) (by rw [hk]; rfl) rfl gX11_toss_X9_fail_u316X10 rfl (by decide +kernel) (c_X9_fail _ (show X.l.stackTraces = false by rw [hl]; exact hst) _ (WX X.γ b F N M P hp sd) (b (19 + (Sh.kd (F d.toNat)).toNat)) (Sh.fg (F d.toNat)) (by omega)) rfl ok_X9_fail rfl rfl rfl rfl dX11_toss_40 (fun E w1 hp => ?_) (fun w1 hp => ?_)
      · obtain ⟨rfl, rfl, hne⟩ := hp
        refine x_catch C htab (pc := 40) [] ⟨30, 43, 46, 293⟩ [] rfl (fun z h => nomatch h) (by decide) (by decide) (List.mem_of_getElem? (i := 1) rfl) (hz.2.2.2.1 ("java/lang/IllegalStateException", "java/lang/IllegalStateException") (by decide +kernel)) (hp := 46) rfl ?_
        exact J46 (by omega)
      · obtain ⟨rfl, h0⟩ := hp
        exact J43 (by omega)
  · refine x_iload_n C 0 rfl rfl dX11_toss_10 ?_
    refine Wx.widen (k' := 1) (n' := 6) (by decide) (by decide) ?_
    exact hret _ _ _ _ dX11_toss_11 rfl ⟨(by unfold q_wr; omega), ⟨(Ct.wa N), (Ct.wa P), _, _, rfl⟩⟩
theorem in_X11_element_X11 : ∀ w ∈ u_ws RX11 TX11 6, w ∈ wsX11_element := by decide +kernel
theorem in_X11_element_X5 : ∀ w ∈ u_ws RX5 TX5 6, w ∈ wsX11_element := by decide +kernel
theorem ok_X11_element : okY yX11_element 2 := by decide +kernel
def rmX11_element : Room := { frames := 6, cells := 1, slots := 6, locals := 82 }
set_option maxRecDepth 100000 in
set_option maxHeartbeats 400000 in
theorem c_X11_element (l : Launch) (hst : l.stackTraces = false) (γ : GX) (b : Nat → Nat) (F : Nat → Sh) (N M P : Ct) (hp sd : Int) (hN : WFc N) (hF : ∀ t : Nat, t < 8 → WFs (F t)) (d : Int) (i : Int) (h0_ : -2147483648 ≤ d ∧ d < 2147483648) (h1_ : -2147483648 ≤ i ∧ i < 2147483648) : MJx l γ yX11_element wsX11_element rmX11_element [.ref (b 0), .int (iN (d)), .int (iN (i))] (WX γ b F N M P hp sd) (fun r_ w_ => ((0 ≤ d ∧ d ≤ 7) ∧ Sh.hd (F d.toNat) = 2 ∧ 0 ≤ i ∧ i ≤ Sh.sz (F d.toNat) - 1) ∧ r_ = Sh.va (F d.toNat) i ∧ w_ = WX γ b F N M P hp sd) (fun E_ w_ => ¬ ((0 ≤ d ∧ d ≤ 7) ∧ Sh.hd (F d.toNat) = 2 ∧ 0 ≤ i ∧ i ≤ Sh.sz (F d.toNat) - 1) ∧ w_ = WX γ b F N M P hp sd ∧ E_ = if 0 ≤ d ∧ d ≤ 7 then "java/lang/IllegalStateException" else "java/lang/IllegalArgumentException") 1 6 := by
  refine MJx.of (cc := cX11_element) (maxL := 3) RX11 rfl (by decide +kernel) rfl (Nat.le_of_ble_eq_true rfl) ?_
  intro X C hγ hl hnm hz hT hret
  subst hγ
  have hNn := WFc.n hN
  show Wx X 0 0 (WX X.γ b F N M P hp sd) 0 [(0, .ref (b 0)), (1, .int (iN (d))), (2, .int (iN (i)))] []
  refine x_iload_n C 1 rfl rfl dX11_element_0 ?_
  refine x_S_I C (As := [.int (iN (d))]) (rest := []) 1 gX11_element_X11_isShelf (c_X11_isShelf _ _ (WX X.γ b F N M P hp sd) (d) (by omega)) rfl ok_X11_isShelf rfl rfl rfl rfl dX11_element_1 (fun r w1 hp => ?_)
  obtain ⟨rfl, rfl⟩ := hp
  refine x_ifne_bz C 18 (by decide) dX11_element_4 (fun c_4 => ?_) (fun c_4 => ?_)
  · have hFd := hF d.toNat (by omega)
    have hSz := WFs.sz hFd
    refine x_aload_n C 0 rfl rfl dX11_element_18 ?_
    refine x_iload_n C 1 rfl rfl dX11_element_19 ?_
    refine x_V_I C (As := [.int (iN (d))]) (rest := []) 1 0 rfl rfl gX11_element_X11_rowRefusal rfl (c_X11_rowRefusal _ _ b F N M P hp sd hN hF (d) (by omega)) rfl ok_X11_rowRefusal rfl rfl rfl rfl dX11_element_20 (fun r w1 hp => ?_)
    obtain ⟨rfl, rfl⟩ := hp
    show Wx X 0 0 (WX X.γ b F N M P hp sd) 23 [(0, .ref (b 0)), (1, .int (iN (d))), (2, .int (iN (i)))] [.int (iN (if 0 ≤ d ∧ d ≤ 7 then (if Sh.hd (F d.toNat) = 0 then -11 else if Sh.hd (F d.toNat) = 2 then 0 else -12) else -1))]
    refine x_if_ge C 37 (by decide) (by omega) dX11_element_23 (fun c_23 => ?_) (fun c_23 => ?_)
    · refine x_aload_n C 0 rfl rfl dX11_element_37 ?_
      refine x_get C in_X11_element_X11 0 rfl rfl 0 (by decide) (List.mem_of_getElem? (i := 5) rfl) rfl (v := .ref (b 1)) rfl dX11_element_38 ?_
      refine x_iload_n C 1 rfl rfl dX11_element_41 ?_
      refine x_aaload C (f := fun k => some (b (2 + 2 * k.toNat))) (b := b (2 + 2 * d.toNat)) 1 rfl (by omega) rfl rfl dX11_element_42 ?_
      refine x_iload_n C 2 rfl rfl dX11_element_43 ?_
      refine x_iconst (v := 0) C dX11_element_44 ?_
      refine x_V_I C (As := [.int (iN (i)), .int (iN (1))]) (rest := []) 2 (2 + 2 * d.toNat) (WX_so _ _ _ _ _ _ _ (show d.toNat < 8 by omega)) rfl gX11_element_X5_hasPlaces rfl (MI.shr b F N M P hp sd d.toNat (show d.toNat < 8 by omega) (fun r => r = (bz ((0 ≤ 1 ∧ 1 ≤ Sh.sz (F d.toNat)) ∧ 0 ≤ i ∧ i ≤ Sh.sz (F d.toNat) - 1))) (c_X5_hasPlaces _ _ (saD b d.toNat) (F d.toNat) (hF d.toNat (by omega)) (i) (1) (by omega) (by omega)) (fun r w h => ⟨h.1, h.2⟩)) rfl ok_X5_hasPlaces rfl rfl rfl rfl dX11_element_45 (fun r w1 hp => ?_)
      obtain ⟨rfl, rfl⟩ := hp
      refine x_ifne_bz C 62 (by decide) dX11_element_48 (fun c_48 => ?_) (fun c_48 => ?_)
      · refine x_aload_n C 0 rfl rfl dX11_element_62 ?_
        refine x_get C in_X11_element_X11 0 rfl rfl 0 (by decide) (List.mem_of_getElem? (i := 5) rfl) rfl (v := .ref (b 1)) rfl dX11_element_63 ?_
        refine x_iload_n C 1 rfl rfl dX11_element_66 ?_
        refine x_aaload C (f := fun k => some (b (2 + 2 * k.toNat))) (b := b (2 + 2 * d.toNat)) 1 rfl (by omega) rfl rfl dX11_element_67 ?_
        refine x_get C in_X11_element_X5 (2 + 2 * d.toNat) (WX_so _ _ _ _ _ _ _ (show d.toNat < 8 by omega)) rfl 5 (by decide) (List.mem_of_getElem? (i := 6) rfl) rfl (v := .ref (b (3 + 2 * d.toNat))) rfl dX11_element_68 ?_
        refine x_iload_n C 2 rfl rfl dX11_element_71 ?_
        refine x_iaload C (f := (Sh.va (F d.toNat))) (3 + 2 * d.toNat) (WX_sv _ _ _ _ _ _ _ (show d.toNat < 8 by omega)) (by omega) rfl dX11_element_72 ?_
        have b161 := WFs.va (hF d.toNat (by omega)) (i)
        refine x_i2l C (by omega) dX11_element_73 ?_
        refine Wx.widen (k' := 1) (n' := 6) (by decide) (by decide) ?_
        exact hret _ _ _ _ dX11_element_74 ⟨(by omega), rfl, rfl⟩
      · exact x_throwSW C hT (show X.l.stackTraces = false by rw [hl]; exact hst) hz (cls := "java/lang/IllegalStateException") (text := "no such place") (names := ["java/lang/RuntimeException", "java/lang/Exception"]) (ik := 293) (is := 298) (ic := 297) (by decide +kernel) (by decide +kernel) (List.mem_of_getElem? (i := 3) rfl) (List.mem_of_getElem? (i := 4) rfl) hz.2.1.2.2.2 (fun w hw => List.mem_cons_of_mem _ (List.mem_append_right _ hw)) (by decide +kernel) (hz.2.2.2.1 ("java/lang/IllegalStateException", "java/lang/IllegalStateException") (by decide +kernel)) (by decide +kernel) rfl ⟨by omega, rfl, (if_pos (by omega)).symm⟩ dX11_element_51 dX11_element_54 dX11_element_55 dX11_element_58 dX11_element_61
    · exact x_throwSW C hT (show X.l.stackTraces = false by rw [hl]; exact hst) hz (cls := "java/lang/IllegalStateException") (text := "no row") (names := ["java/lang/RuntimeException", "java/lang/Exception"]) (ik := 293) (is := 295) (ic := 297) (by decide +kernel) (by decide +kernel) (List.mem_of_getElem? (i := 3) rfl) (List.mem_of_getElem? (i := 4) rfl) hz.2.1.2.2.1 (fun w hw => List.mem_cons_of_mem _ (List.mem_append_right _ hw)) (by decide +kernel) (hz.2.2.2.1 ("java/lang/IllegalStateException", "java/lang/IllegalStateException") (by decide +kernel)) (by decide +kernel) rfl ⟨by omega, rfl, (if_pos (by omega)).symm⟩ dX11_element_26 dX11_element_29 dX11_element_30 dX11_element_33 dX11_element_36
  · exact x_throwSW C hT (show X.l.stackTraces = false by rw [hl]; exact hst) hz (cls := "java/lang/IllegalArgumentException") (text := "no such shelf") (names := ["java/lang/RuntimeException", "java/lang/Exception"]) (ik := 286) (is := 288) (ic := 290) (by decide +kernel) (by decide +kernel) (List.mem_of_getElem? (i := 1) rfl) (List.mem_of_getElem? (i := 2) rfl) hz.2.1.2.1 (fun w hw => List.mem_cons_of_mem _ (List.mem_append_left _ (List.mem_append_right _ hw))) (by decide +kernel) (hz.2.2.2.1 ("java/lang/IllegalArgumentException", "java/lang/IllegalArgumentException") (by decide +kernel)) (by decide +kernel) rfl ⟨by omega, rfl, (if_neg (by omega)).symm⟩ dX11_element_7 dX11_element_10 dX11_element_11 dX11_element_14 dX11_element_17
theorem ok_L_element : okY yL_element 4 := by decide +kernel
def rmL_element : Room := { frames := 7, cells := 1, slots := 6, locals := 104 }
set_option maxRecDepth 100000 in
set_option maxHeartbeats 400000 in
theorem c_L_element (l : Launch) (hst : l.stackTraces = false) (γ : GX) (b : Nat → Nat) (F : Nat → Sh) (N M P : Ct) (hp sd : Int) (hN : WFc N) (hF : ∀ t : Nat, t < 8 → WFs (F t)) (o : Nat) (g : Int → Int) (d i : Int) (h0_ : -2147483648 ≤ d ∧ d < 2147483648) (h1_ : -2147483648 ≤ i ∧ i < 2147483648) : MIz l γ yL_element wsL_element rmL_element [.ref (b 0), .int (iN (d)), .int (iN (i)), .ref (o)] ([] ++ (WX γ b F N M P hp sd) ++ [(o, aJ γ 1 g)]) (fun r_ w_ => (((0 ≤ d ∧ d ≤ 7) ∧ Sh.hd (F d.toNat) = 2 ∧ 0 ≤ i ∧ i ≤ Sh.sz (F d.toNat) - 1) ∧ r_ = 0 ∧ w_ = ([] ++ (WX γ b F N M P hp sd) ++ [(o, aJ γ 1 (upz g 0 (Sh.va (F d.toNat) i)))])) ∨ (¬ ((0 ≤ d ∧ d ≤ 7) ∧ Sh.hd (F d.toNat) = 2 ∧ 0 ≤ i ∧ i ≤ Sh.sz (F d.toNat) - 1) ∧ r_ = (if 0 ≤ d ∧ d ≤ 7 then 2 else 1) ∧ w_ = ([] ++ (WX γ b F N M P hp sd) ++ [(o, aJ γ 1 g)]))) 1 6 := by
  refine MIz.ofW (cc := cL_element) (maxL := 5) (rt := .int) RL rfl (by decide +kernel) rfl (Nat.le_of_ble_eq_true rfl) ?_
  intro X C hγ hl hnm hz htab hret
  subst hγ
  show Wx X 0 0 ([] ++ (WX X.γ b F N M P hp sd) ++ [(o, aJ X.γ 1 g)]) 0 [(0, .ref (b 0)), (1, .int (iN (d))), (2, .int (iN (i))), (3, .ref (o))] []
  refine x_aload_n C 3 rfl rfl dL_element_0 ?_
  refine x_iconst (v := 0) C dL_element_1 ?_
  refine x_aload_n C 0 rfl rfl dL_element_2 ?_
  refine x_iload_n C 1 rfl rfl dL_element_3 ?_
  refine x_iload_n C 2 rfl rfl dL_element_4 ?_
  refine x_V_Jx C hz (As := [.int (iN (d)), .int (iN (i))]) (rest := [.int (iN (0)), .ref (o)]) 2 0 rfl rfl gL_element_X11_element rfl ((c_X11_element _ (show X.l.stackTraces = false by rw [hl]; exact hst) _ b F N M P hp sd hN hF d i (by omega) (by omega)).app [] [(o, aJ X.γ 1 g)]) rfl ok_X11_element rfl rfl rfl rfl dL_element_5 (fun E w1 hp => ?_) (fun r w1 hp => ?_)
  · obtain ⟨w9, ⟨hne, rfl, hE⟩, rfl⟩ := hp
    by_cases hq : 0 ≤ d ∧ d ≤ 7
    · rw [if_pos hq] at hE
      subst hE
      refine x_catch C htab (pc := 5) [⟨0, 9, 12, 13⟩] ⟨0, 9, 16, 15⟩ [] rfl (fun z h => ?_) (by decide) (by decide) (List.mem_of_getElem? (i := 2) rfl) (hz.2.2.2.1 ("java/lang/IllegalStateException", "java/lang/IllegalStateException") (by decide +kernel)) (hp := 16) rfl (fun q => ?_)
      · rw [List.mem_singleton.mp h]
        exact Or.inr ⟨by decide, "java/lang/IllegalArgumentException", (List.mem_of_getElem? (i := 1) rfl), hz.2.2.2.2.2⟩
      · refine x_astore C [(4, .ref (q)), (0, .ref (b 0)), (1, .int (iN (d))), (2, .int (iN (i))), (3, .ref (o))] (by decide) rfl dL_element_16 ?_
        refine x_iconst (v := 0) C dL_element_18 ?_
        exact hret _ _ _ _ dL_element_19 rfl (Or.inr ⟨hne, (by omega), rfl⟩)
    · rw [if_neg hq] at hE
      subst hE
      refine x_catch C htab (pc := 5) [] ⟨0, 9, 12, 13⟩ [⟨0, 9, 16, 15⟩] rfl (fun z h => nomatch h) (by decide) (by decide) (List.mem_of_getElem? (i := 1) rfl) (hz.2.2.2.1 ("java/lang/IllegalArgumentException", "java/lang/IllegalArgumentException") (by decide +kernel)) (hp := 12) rfl (fun q => ?_)
      refine x_astore C [(4, .ref (q)), (0, .ref (b 0)), (1, .int (iN (d))), (2, .int (iN (i))), (3, .ref (o))] (by decide) rfl dL_element_12 ?_
      refine x_iconst (v := 0) C dL_element_14 ?_
      exact hret _ _ _ _ dL_element_15 rfl (Or.inr ⟨hne, (by omega), rfl⟩)
  · obtain ⟨w9, ⟨hel, rfl, rfl⟩, rfl⟩ := hp
    refine x_lastore C (f := g) 60 rfl (by omega) rfl ([] ++ (WX X.γ b F N M P hp sd) ++ [(o, aJ X.γ 1 (upz g 0 (Sh.va (F d.toNat) i)))]) rfl dL_element_8 ?_
    refine x_goto C 20 (by decide) dL_element_9 ?_
    refine x_iconst (v := 0) C dL_element_20 ?_
    exact hret _ _ _ _ dL_element_21 rfl (Or.inl ⟨hel, rfl, rfl⟩)
end HX10
