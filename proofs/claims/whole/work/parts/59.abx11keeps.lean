section HXEab
theorem in_X11_keeps_X1 : ∀ w ∈ u_ws RX1 TX1 13, w ∈ wsX11_keeps := by decide +kernel
theorem in_X11_keeps_X11 : ∀ w ∈ u_ws RX11 TX11 6, w ∈ wsX11_keeps := by decide +kernel
theorem ok_X11_keeps : okY yX11_keeps 0 := by decide +kernel
def rmX11_keeps : Room := { frames := 4, cells := 0, slots := 0, locals := 127 }
set_option maxRecDepth 100000 in
set_option maxHeartbeats 400000 in
theorem c_X11_keeps (l : Launch) (γ : GX) (b : Nat → Nat) (F : Nat → Sh) (N M P : Ct) (hp sd : Int) (hN : WFc N) (hF : ∀ t : Nat, t < 8 → WFs (F t)) : MI l γ yX11_keeps wsX11_keeps rmX11_keeps [.ref (b 0)] (WX γ b F N M P hp sd) (fun r_ w_ => r_ = kpz N (pw (Ct.n N)) ∧ Wc γ b F N P hp w_) 0 0 := by
  refine MI.of (cc := cX11_keeps) (maxL := 5) (rt := .int) RX11 rfl (by decide +kernel) rfl (Nat.le_of_ble_eq_true rfl) ?_
  intro X C hγ hl hnm hret
  subst hγ
  have hNn := WFc.n hN
  have bpw := pw_b hNn
  show Wx X 0 0 (WX X.γ b F N M P hp sd) 0 [(0, .ref (b 0))] []
  refine x_bipush C (-4) (by decide) dX11_keeps_0 ?_
  refine x_istore_n C [(1, .int (iN (-4))), (0, .ref (b 0))] rfl (by decide) rfl dX11_keeps_2 ?_
  refine x_iconst (v := 0) C dX11_keeps_3 ?_
  refine x_istore_n C [(2, .int (iN (-1))), (1, .int (iN (-4))), (0, .ref (b 0))] rfl (by decide) rfl dX11_keeps_4 ?_
  refine x_iconst (v := 0) C dX11_keeps_5 ?_
  refine x_istore_n C [(3, .int (iN (0))), (2, .int (iN (-1))), (1, .int (iN (-4))), (0, .ref (b 0))] rfl (by decide) rfl dX11_keeps_6 ?_
  have LP7 : ∀ (f : Nat) (k : Nat) (M1 : Ct) (v3_7 : Int) (v2_7 : Int) (v1_7 : Int), (pw (Ct.n N) - k < f) → (k ≤ pw (Ct.n N)) → (((k : Int)) = v3_7) → (v2_7 = (if kpz N k < 0 then -1 else (pc6 (kpz N k).toNat : Int))) → (v1_7 = (kpz N k)) → Wx X 0 0 (WX X.γ b F N M1 P hp sd) 7 [(3, .int (iN (v3_7))), (2, .int (iN (v2_7))), (1, .int (iN (v1_7))), (0, .ref (b 0))] [] := by
    intro f
    induction f with
    | zero => intro k M1 v3_7 v2_7 v1_7 hf; exact absurd hf (Nat.not_lt_zero _)
    | succ f ih7 =>
      intro k M1 v3_7 v2_7 v1_7 hf hk e3_7 e2_7 e1_7
      subst e3_7
      have bc := kpz_b N k
      rw [← e1_7] at e2_7
      have p62 : pc6 v1_7.toNat ≤ 6 := by unfold pc6; omega
      refine x_iload_n C 0 rfl rfl dX11_keeps_7 ?_
      refine x_iconst (v := 0) C dX11_keeps_8 ?_
      refine x_aload_n C 3 rfl rfl dX11_keeps_9 ?_
      refine x_get C in_X11_keeps_X11 0 rfl rfl 1 (by decide) (List.mem_of_getElem? (i := 1) rfl) rfl (v := .ref (b 27)) rfl dX11_keeps_10 ?_
      refine x_get C in_X11_keeps_X1 27 rfl rfl 2 (by decide) (List.mem_of_getElem? (i := 2) rfl) rfl (v := .int (iN (Ct.n N))) rfl dX11_keeps_13 ?_
      refine x_ishl C ((pw (Ct.n N) : Nat) : Int) (iN_shlp hNn) dX11_keeps_16 ?_
      refine x_icmp_ge C 51 (by decide) (by omega) dX11_keeps_17 (fun c_17 => ?_) (fun c_17 => ?_)
      · refine x_iload_n C 2 rfl rfl dX11_keeps_51 ?_
        exact hret _ _ _ _ dX11_keeps_52 rfl ⟨(by rw [show pw (Ct.n N) = k by omega]; exact e1_7), ⟨(Ct.wa N), (Ct.wa P), _, _, rfl⟩⟩
      · refine x_iload_n C 0 rfl rfl dX11_keeps_20 ?_
        refine x_S_I C (As := [.int (iN ((k : Int)))]) (rest := []) 1 gX11_keeps_J6_bitCount_0f7a4 (c_J6_bitCount_0f7a4 _ _ (WX X.γ b F N M1 P hp sd) ((k : Int)) (by omega)) rfl ok_J6_bitCount_0f7a4 rfl rfl rfl rfl dX11_keeps_21 (fun r w1 hp => ?_)
        obtain ⟨rfl, rfl⟩ := hp
        show Wx X 0 0 (WX X.γ b F N M1 P hp sd) 24 [(3, .int (iN ((k : Int)))), (2, .int (iN (v2_7))), (1, .int (iN (v1_7))), (0, .ref (b 0))] [.int (iN ((pcn ((k : Int)).toNat : Int)))]
        rw [show (pcn ((k : Int)).toNat : Int) = (pc6 k : Int) from by rw [Int.toNat_natCast, pcn_6 (by omega)]]
        have p61 : pc6 k ≤ 6 := by unfold pc6; omega
        refine x_istore C [(4, .int (iN ((pc6 k : Int)))), (3, .int (iN ((k : Int)))), (2, .int (iN (v2_7))), (1, .int (iN (v1_7))), (0, .ref (b 0))] (by decide) rfl dX11_keeps_24 ?_
        refine x_iload C 0 rfl dX11_keeps_26 ?_
        refine x_iload_n C 2 rfl rfl dX11_keeps_28 ?_
        refine x_icmp_le C 45 (by decide) (by omega) dX11_keeps_29 (fun c_29 => ?_) (fun c_29 => ?_)
        · refine x_iinc C 1 [(3, .int (iN ((k : Int) + 1))), (4, .int (iN ((pc6 k : Int)))), (2, .int (iN (v2_7))), (1, .int (iN (v1_7))), (0, .ref (b 0))] rfl rfl (by decide) rfl dX11_keeps_45 ?_
          refine x_goto C 7 (by decide) dX11_keeps_48 ?_
          refine Wx.subL [0, 2, 3, 4] rfl ?_
          exact ih7 (k + 1) (M1) _ _ _ (by omega) (by omega) (by omega) (by rw [← (show v1_7 = kpz N (k + 1) from (by rw [e1_7]; exact (kpz_n (by rw [← e1_7]; omega)).symm))]; exact e2_7) ((by rw [e1_7]; exact (kpz_n (by rw [← e1_7]; omega)).symm))
        · refine x_aload_n C 4 rfl rfl dX11_keeps_32 ?_
          refine x_iload_n C 1 rfl rfl dX11_keeps_33 ?_
          refine x_V_I C (As := [.int (iN ((k : Int)))]) (rest := []) 1 0 rfl rfl gX11_keeps_X11_waterIfOnly rfl (c_X11_waterIfOnly _ _ b F N M1 P hp sd hN hF ((k : Int)) (by omega)) rfl ok_X11_waterIfOnly rfl rfl rfl rfl dX11_keeps_34 (fun r w1 hp => ?_)
          obtain ⟨rfl, Mb120, rfl⟩ := hp
          show Wx X 0 0 (WX X.γ b F N Mb120 P hp sd) 37 [(4, .int (iN ((pc6 k : Int)))), (3, .int (iN ((k : Int)))), (2, .int (iN (v2_7))), (1, .int (iN (v1_7))), (0, .ref (b 0))] [.int (iN (Ct.allW (Ct.set_pr N (onp (Ct.pr N) ((k : Int)) (Ct.n N).toNat))))]
          rw [show Ct.allW (Ct.set_pr N (onp (Ct.pr N) ((k : Int)) (Ct.n N).toNat)) = Ct.allW (awy N (((pw (Ct.n N) : Nat) : Int) - 1 - (k : Int))) from onp_awy hN (by omega)]
          have bA := WFc.allW (awy_wf hN (((pw (Ct.n N) : Nat) : Int) - 1 - (k : Int)))
          refine x_if_ne C 45 (by decide) (by omega) dX11_keeps_37 (fun c_37 => ?_) (fun c_37 => ?_)
          · refine x_iinc C 1 [(3, .int (iN ((k : Int) + 1))), (4, .int (iN ((pc6 k : Int)))), (2, .int (iN (v2_7))), (1, .int (iN (v1_7))), (0, .ref (b 0))] rfl rfl (by decide) rfl dX11_keeps_45 ?_
            refine x_goto C 7 (by decide) dX11_keeps_48 ?_
            refine Wx.subL [0, 2, 3, 4] rfl ?_
            exact ih7 (k + 1) (Mb120) _ _ _ (by omega) (by omega) (by omega) (by rw [← (show v1_7 = kpz N (k + 1) from (by rw [e1_7]; exact (kpz_m c_37).symm))]; exact e2_7) ((by rw [e1_7]; exact (kpz_m c_37).symm))
          · refine x_iload C 0 rfl dX11_keeps_40 ?_
            refine x_istore_n C [(2, .int (iN ((pc6 k : Int)))), (4, .int (iN ((pc6 k : Int)))), (3, .int (iN ((k : Int)))), (1, .int (iN (v1_7))), (0, .ref (b 0))] rfl (by decide) rfl dX11_keeps_42 ?_
            refine x_iload_n C 2 rfl rfl dX11_keeps_43 ?_
            refine x_istore_n C [(1, .int (iN ((k : Int)))), (2, .int (iN ((pc6 k : Int)))), (4, .int (iN ((pc6 k : Int)))), (3, .int (iN ((k : Int)))), (0, .ref (b 0))] rfl (by decide) rfl dX11_keeps_44 ?_
            refine x_iinc C 3 [(3, .int (iN ((k : Int) + 1))), (1, .int (iN ((k : Int)))), (2, .int (iN ((pc6 k : Int)))), (4, .int (iN ((pc6 k : Int)))), (0, .ref (b 0))] rfl rfl (by decide) rfl dX11_keeps_45 ?_
            refine x_goto C 7 (by decide) dX11_keeps_48 ?_
            refine Wx.subL [0, 2, 1, 4] rfl ?_
            exact ih7 (k + 1) (Mb120) _ _ _ (by omega) (by omega) (by omega) (by rw [← (show (k : Int) = kpz N (k + 1) from (kpz_y (by rw [← e1_7]; omega) c_37).symm), if_neg (by omega), Int.toNat_natCast]) ((kpz_y (by rw [← e1_7]; omega) c_37).symm)
  exact LP7 ((pw (Ct.n N) - (0)) + 1) (0) (M) _ _ _ (by omega) (by omega) (by omega) (rfl) (rfl)
end HXEab
