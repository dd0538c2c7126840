section HXAak
theorem ok_X11_inLeastTerms : okY yX11_inLeastTerms 3 := by decide +kernel
def rmX11_inLeastTerms : Room := { frames := 1, cells := 0, slots := 0, locals := 60 }
set_option maxRecDepth 100000 in
set_option maxHeartbeats 400000 in
theorem c_X11_inLeastTerms (l : Launch) (γ : GX) (w0 : va_W) (x : Int) (y : Int) (i : Int) (h0_ : 0 ≤ x ∧ x < 9223372036854775808) (h1_ : 0 < y ∧ y < 9223372036854775808) (h2_ : 0 ≤ i ∧ i ≤ 1) : MJ l γ yX11_inLeastTerms wsX11_inLeastTerms rmX11_inLeastTerms [.long (jN (x)), .long (jN (y)), .int (iN (i))] w0 (fun r_ w_ => r_ = (q_part x y i) ∧ w_ = w0) 0 0 := by
  refine MJ.of (cc := cX11_inLeastTerms) (maxL := 7) RX11 rfl (by decide +kernel) rfl (Nat.le_of_ble_eq_true rfl) ?_
  intro X C hγ hl hnm hret
  subst hγ
  show Wx X 0 0 w0 0 [(0, .long (jN (x))), (2, .long (jN (y))), (4, .int (iN (i)))] []
  refine x_lconst C 1 rfl dX11_inLeastTerms_0 ?_
  refine x_lload_n C 0 rfl rfl dX11_inLeastTerms_1 ?_
  refine x_lload_n C 1 rfl rfl dX11_inLeastTerms_2 ?_
  refine x_S_J C (As := [.long (jN (x)), .long (jN (y))]) (rest := [.long (jN (1))]) 2 gX11_inLeastTerms_X11_commonDivisor (c_X11_commonDivisor _ _ w0 (x) (y) (by omega) (by omega)) rfl ok_X11_commonDivisor rfl rfl rfl rfl dX11_inLeastTerms_3 (fun r w1 hp => ?_)
  obtain ⟨rfl, rfl⟩ := hp
  have hg0 : 0 < Nat.gcd x.toNat y.toNat := Nat.gcd_pos_of_pos_right _ (by omega)
  have hg1 : Nat.gcd x.toNat y.toNat ≤ y.toNat := Nat.gcd_le_right _ (by omega)
  refine x_maxJ C (List.mem_of_getElem? (i := 1) rfl) (List.mem_of_getElem? (i := 2) rfl) (List.mem_of_getElem? (i := 3) rfl) (List.mem_of_getElem? (i := 4) rfl) (by omega) rfl dX11_inLeastTerms_6 ?_
  rw [show max 1 (Nat.gcd x.toNat y.toNat : Int) = (Nat.gcd x.toNat y.toNat : Int) from by omega]
  refine x_lstore C [(5, .long (jN ((Nat.gcd x.toNat y.toNat : Int)))), (0, .long (jN (x))), (2, .long (jN (y))), (4, .int (iN (i)))] (by decide) rfl dX11_inLeastTerms_9 ?_
  refine x_iload C 3 rfl dX11_inLeastTerms_11 ?_
  refine x_if_ne C 20 (by decide) (by omega) dX11_inLeastTerms_13 (fun c_13 => ?_) (fun c_13 => ?_)
  · refine x_lload_n C 2 rfl rfl dX11_inLeastTerms_20 ?_
    refine x_lload C 0 rfl dX11_inLeastTerms_21 ?_
    refine x_ldiv C (by omega) dX11_inLeastTerms_23 ?_
    exact hret _ _ _ _ dX11_inLeastTerms_24 ⟨(by unfold q_part; by_cases hx : x = 0; (subst hx; rw [if_pos rfl]; rw [show Nat.gcd (0 : Int).toNat y.toNat = y.toNat from Nat.gcd_zero_left _, show ((y.toNat : Nat) : Int) = y by omega, Int.ediv_self (by omega)]; omega); (rw [if_neg hx, if_neg (show ¬ i = 0 by omega)])), rfl⟩
  · refine x_lload_n C 1 rfl rfl dX11_inLeastTerms_16 ?_
    refine x_goto C 21 (by decide) dX11_inLeastTerms_17 ?_
    refine x_lload C 0 rfl dX11_inLeastTerms_21 ?_
    refine x_ldiv C (by omega) dX11_inLeastTerms_23 ?_
    exact hret _ _ _ _ dX11_inLeastTerms_24 ⟨(by unfold q_part; by_cases hx : x = 0; (subst hx; rw [if_pos rfl]; rw [show i = 0 by omega]; simp); (rw [if_neg hx, if_pos (show i = 0 by omega)])), rfl⟩
end HXAak
