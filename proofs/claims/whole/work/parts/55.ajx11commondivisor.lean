section HXAaj
theorem ok_X11_commonDivisor : okY yX11_commonDivisor 2 := by decide +kernel
def rmX11_commonDivisor : Room := { frames := 0, cells := 0, slots := 0, locals := 0 }
set_option maxRecDepth 100000 in
set_option maxHeartbeats 400000 in
theorem c_X11_commonDivisor (l : Launch) (γ : GX) (w0 : va_W) (x : Int) (y : Int) (h0_ : 0 ≤ x ∧ x < 9223372036854775808) (h1_ : 0 ≤ y ∧ y < 9223372036854775808) : MJ l γ yX11_commonDivisor wsX11_commonDivisor rmX11_commonDivisor [.long (jN (x)), .long (jN (y))] w0 (fun r_ w_ => r_ = ((Nat.gcd x.toNat y.toNat : Int)) ∧ w_ = w0) 0 0 := by
  refine MJ.of (cc := cX11_commonDivisor) (maxL := 11) RX11 rfl (by decide +kernel) rfl (Nat.le_of_ble_eq_true rfl) ?_
  intro X C hγ hl hnm hret
  subst hγ
  show Wx X 0 0 w0 0 [(0, .long (jN (x))), (2, .long (jN (y)))] []
  refine x_lload_n C 0 rfl rfl dX11_commonDivisor_0 ?_
  refine x_lstore C [(4, .long (jN (x))), (0, .long (jN (x))), (2, .long (jN (y)))] (by decide) rfl dX11_commonDivisor_1 ?_
  refine x_lload_n C 2 rfl rfl dX11_commonDivisor_3 ?_
  refine x_lstore C [(6, .long (jN (y))), (4, .long (jN (x))), (0, .long (jN (x))), (2, .long (jN (y)))] (by decide) rfl dX11_commonDivisor_4 ?_
  refine x_iconst (v := 0) C dX11_commonDivisor_6 ?_
  refine x_istore C [(8, .int (iN (0))), (6, .long (jN (y))), (4, .long (jN (x))), (0, .long (jN (x))), (2, .long (jN (y)))] (by decide) rfl dX11_commonDivisor_7 ?_
  have LP9 : ∀ (f : Nat) (k : Nat) (u : Nat) (v : Nat) (v8_9 : Int) (v6_9 : Int) (v4_9 : Int), (200 - k < f) → (k ≤ 200) → (u < 9223372036854775808) → (v < 9223372036854775808) → (hid (egc x.toNat y.toNat 200 = egc u v (200 - k))) → (((k : Int)) = v8_9) → (((v : Int)) = v6_9) → (((u : Int)) = v4_9) → Wx X 0 0 w0 9 [(8, .int (iN (v8_9))), (6, .long (jN (v6_9))), (4, .long (jN (v4_9))), (0, .long (jN (x))), (2, .long (jN (y)))] [] := by
    intro f
    induction f with
    | zero => intro k u v v8_9 v6_9 v4_9 hf; exact absurd hf (Nat.not_lt_zero _)
    | succ f ih9 =>
      intro k u v v8_9 v6_9 v4_9 hf hk hu hv hg e8_9 e6_9 e4_9
      subst e4_9
      subst e6_9
      subst e8_9
      refine x_iload C 0 rfl dX11_commonDivisor_9 ?_
      refine x_sipush C (200) (by decide) dX11_commonDivisor_11 ?_
      refine x_icmp_ge C 45 (by decide) (by omega) dX11_commonDivisor_14 (fun c_14 => ?_) (fun c_14 => ?_)
      · refine x_lload C 2 rfl dX11_commonDivisor_45 ?_
        exact hret _ _ _ _ dX11_commonDivisor_47 ⟨(by have hg : _ = _ := hg; rw [← egc_gcd 100 x.toNat y.toNat (Nat.lt_of_lt_of_le (show y.toNat < 9223372036854775808 by omega) (by decide)), show 2 * 100 = 200 from rfl, hg]; rw [show 200 - k = 0 by omega]; rfl), rfl⟩
      · refine x_lload C 1 rfl dX11_commonDivisor_17 ?_
        refine x_lconst C 0 rfl dX11_commonDivisor_19 ?_
        refine x_lcmp_eq C 45 (by decide) (by omega) dX11_commonDivisor_20 dX11_commonDivisor_21 (fun c_20 => ?_) (fun c_20 => ?_)
        · refine x_lload C 2 rfl dX11_commonDivisor_45 ?_
          exact hret _ _ _ _ dX11_commonDivisor_47 ⟨(by have hg : _ = _ := hg; rw [← egc_gcd 100 x.toNat y.toNat (Nat.lt_of_lt_of_le (show y.toNat < 9223372036854775808 by omega) (by decide)), show 2 * 100 = 200 from rfl, hg]; rw [show v = 0 by omega, egc_0]), rfl⟩
        · refine x_lload C 2 rfl dX11_commonDivisor_24 ?_
          refine x_lload C 1 rfl dX11_commonDivisor_26 ?_
          refine x_lrem C (by omega) dX11_commonDivisor_28 ?_
          have hml := Nat.mod_lt u (show 0 < v by omega)
          refine x_lstore C [(9, .long (jN ((u : Int) % (v : Int)))), (8, .int (iN ((k : Int)))), (6, .long (jN ((v : Int)))), (4, .long (jN ((u : Int)))), (0, .long (jN (x))), (2, .long (jN (y)))] (by decide) rfl dX11_commonDivisor_29 ?_
          refine x_lload C 2 rfl dX11_commonDivisor_31 ?_
          refine x_lstore C [(4, .long (jN ((v : Int)))), (9, .long (jN ((u : Int) % (v : Int)))), (8, .int (iN ((k : Int)))), (6, .long (jN ((v : Int)))), (0, .long (jN (x))), (2, .long (jN (y)))] (by decide) rfl dX11_commonDivisor_33 ?_
          refine x_lload C 1 rfl dX11_commonDivisor_35 ?_
          refine x_lstore C [(6, .long (jN ((u : Int) % (v : Int)))), (4, .long (jN ((v : Int)))), (9, .long (jN ((u : Int) % (v : Int)))), (8, .int (iN ((k : Int)))), (0, .long (jN (x))), (2, .long (jN (y)))] (by decide) rfl dX11_commonDivisor_37 ?_
          refine x_iinc C 3 [(8, .int (iN ((k : Int) + 1))), (6, .long (jN ((u : Int) % (v : Int)))), (4, .long (jN ((v : Int)))), (9, .long (jN ((u : Int) % (v : Int)))), (0, .long (jN (x))), (2, .long (jN (y)))] rfl rfl (by decide) rfl dX11_commonDivisor_39 ?_
          refine x_goto C 9 (by decide) dX11_commonDivisor_42 ?_
          refine Wx.subL [0, 1, 2, 4, 5] rfl ?_
          exact ih9 (k + 1) (v) (u % v) _ _ _ (by omega) (by omega) (by omega) (by omega) (by have hg : _ = _ := hg; show _ = _; rw [hg, show 200 - k = (200 - (k + 1)) + 1 by omega]; exact if_neg (by omega)) (by omega) (rfl) (rfl)
  exact LP9 ((200 - (0)) + 1) (0) (x.toNat) (y.toNat) _ _ _ (by omega) (by omega) (by omega) (by omega) (rfl) (by omega) (by omega) (by omega)
end HXAaj
