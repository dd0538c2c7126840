set_option maxRecDepth 100000 in
set_option maxHeartbeats 4000000 in
/-- YOUR PART -/
theorem whole_start {p : Program} {e : Env} {s : State} {m : MethodId} {below : List Frame} {meth : Method} {c : Code} (l : Launch) (hflags : l.flags = flags0) {b L : Nat} {xs : Nat → Int32} (hL : L ≤ 3072) (C0 : lw_At p s m meth c b L xs) : W p l e room_1 s m #[Value.ref b] below meth c s.heap [] 0 0 (lw_Z below #[Value.ref b] s) (entryFrame m ([Value.ref b] : List Value).toArray 8) := by
  obtain ⟨hx, hb, hr, hml, hown, hts, hXs, hbl, hlocks, hgv⟩ := id C0
  have hst : l.stackTraces = false := by
    show Launch.stackTraces l = false
    unfold Launch.stackTraces
    rw [hflags]
    decide +kernel
  obtain ⟨γ, hKG⟩ := lw_KG hts
  have hZ := lw_ZG hts hgv
  have hl := lv_entry ([.ref b]) (n := 8) (Nat.le_of_ble_eq_true rfl)
  rw [lg_entry_eq]
  obtain ⟨X, hXe⟩ : ∃ X : CX, X = (p, l, e, room_1, s, m, #[Value.ref b], below, meth, c, fun q : Nat => s.heap.size ≤ q, lw_Z below #[Value.ref b] s, γ, 8) := ⟨_, rfl⟩
  have C : Cx X cL_law 8 RL wsL_law room_1 := by
    subst hXe
    exact ⟨hx, hb, hml, rfl, hown, fun w hw => hts w (wsL_law_in w hw), hKG, fun q h => h, rfl⟩
  have hz : ZG X.A X.s := by subst hXe; exact hZ
  have hfl : X.l.stackTraces = false := by subst hXe; exact hst
  have hX : SCR X b L xs := by subst hXe; exact ⟨hXs, hbl, Nat.not_le.mpr hbl, hL⟩
  have hret : ∀ (k n : Nat) (w : va_W) (Ls : List (Nat × Value)), k ≤ 601024 → n ≤ 7293034 → Wx X k n w 1820 Ls [.int (iN 1)] := by
    subst hXe
    intro k n w Ls hk hn H locs ls hP hD hS hl
    refine va_forget (fun q hq => hS.2.2 q hq) ?_
    refine W.widen (k := 601024) (n := 7293034) hk hn ?_
    exact lw_ret hx hb hr hlocks dL_law_1820
  have main : Wx X 0 0 [] 0 [(0, .ref b)] [] := by
    refine x_new C (N := 6) inlX11 tyX11 tyX11_ok (index := 8) (by decide +kernel) (by decide +kernel) (by decide +kernel) (ci := 10) rfl [.null, .null, .null, .null, .int (iN (0)), .int (iN (0))] (by intro j hj; have hj2 : j = 0 ∨ j = 1 ∨ j = 2 ∨ j = 3 ∨ j = 4 ∨ j = 5 := (by omega); rcases hj2 with rfl | rfl | rfl | rfl | rfl | rfl <;> rfl) rfl dL_law_0 (fun q1 => ?_)
    refine x_dup C rfl dL_law_3 ?_
    refine x_I_Vz C hz (As := []) (rest := [.ref q1]) (b := q1) 0 gL_law_X11_init (by decide +kernel) (by decide +kernel) (by decide +kernel) rfl rfl (c_X11_init2 _ _ q1) rfl ok_X11_init rfl rfl rfl rfl dL_law_4 (fun v1 hv1 => ?_)
    obtain ⟨b1, rfl, rfl⟩ := hv1
    refine x_astore_n C [(1, .ref (b1 0)), (0, .ref b)] rfl (by decide) rfl dL_law_7 ?_
    refine x_new C (N := 34) inlX12 tyX12 tyX12_ok (index := 18) (by decide +kernel) (by decide +kernel) (by decide +kernel) (ci := 11) rfl [.null, .int (iN (0)), .null, .null, .null, .null, .null, .int (iN (0)), .null, .null, .null, .null, .null, .null, .int (iN (0)), .int (iN (0)), .null, .null, .int (iN (0)), .int (iN (0)), .int (iN (0)), .int (iN (0)), .null, .null, .null, .null, .null, .int (iN (0)), .int (iN (0)), .int (iN (0)), .null, .null, .int (iN (0)), .null] (by intro j hj; have hj2 : j = 0 ∨ j = 1 ∨ j = 2 ∨ j = 3 ∨ j = 4 ∨ j = 5 ∨ j = 6 ∨ j = 7 ∨ j = 8 ∨ j = 9 ∨ j = 10 ∨ j = 11 ∨ j = 12 ∨ j = 13 ∨ j = 14 ∨ j = 15 ∨ j = 16 ∨ j = 17 ∨ j = 18 ∨ j = 19 ∨ j = 20 ∨ j = 21 ∨ j = 22 ∨ j = 23 ∨ j = 24 ∨ j = 25 ∨ j = 26 ∨ j = 27 ∨ j = 28 ∨ j = 29 ∨ j = 30 ∨ j = 31 ∨ j = 32 ∨ j = 33 := (by omega); rcases hj2 with rfl | rfl | rfl | rfl | rfl | rfl | rfl | rfl | rfl | rfl | rfl | rfl | rfl | rfl | rfl | rfl | rfl | rfl | rfl | rfl | rfl | rfl | rfl | rfl | rfl | rfl | rfl | rfl | rfl | rfl | rfl | rfl | rfl | rfl <;> rfl) rfl dL_law_8 (fun q2 => ?_)
    refine x_dup C rfl dL_law_11 ?_
    refine Wx.eqW (List.append_nil _).symm ?_
    refine x_I_V C (As := []) (rest := [.ref q2]) (b := q2) 0 gL_law_X12_init (by decide +kernel) (by decide +kernel) (by decide +kernel) rfl rfl ((c_X12_init2 _ _ q2).app (WX X.γ b1 (fun _ => (0, 0, 0, 0, 0, fun _ => 0)) C5 C5 C5 0 0) []) rfl ok_X12_init rfl rfl rfl rfl dL_law_12 (fun v2 hv2 => ?_)
    obtain ⟨w2, ⟨a1, rfl, rfl⟩, rfl⟩ := hv2
    refine Wx.eqW (List.append_nil _) ?_
    refine x_astore_n C [(2, .ref (a1 0)), (1, .ref (b1 0)), (0, .ref b)] rfl (by decide) rfl dL_law_15 ?_
    refine x_iconst (v := 0) C dL_law_16 ?_
    refine x_newaJ C 1 rfl rfl (by decide +kernel) rfl dL_law_17 (fun q3 => ?_)
    refine x_astore_n C [(3, .ref q3), (2, .ref (a1 0)), (1, .ref (b1 0)), (0, .ref b)] rfl (by decide) rfl dL_law_19 ?_
    refine x_iconst (v := 0) C dL_law_20 ?_
    refine x_istore C [(4, .int (iN 0)), (3, .ref q3), (2, .ref (a1 0)), (1, .ref (b1 0)), (0, .ref b)] (by decide) rfl dL_law_21 ?_
    exact lw_loop C hz hfl hX hret 513 0 rfl (Nat.zero_le _) _ ⟨fun _ => (0, 0, 0, 0, 0, fun _ => 0), C5, C5, C5, 0, 0, fun _ => 0, fun _ => 0, fun _ => 0, fun _ => 0, fun _ => 0, fun _ => 0, 0, (fun _ => 0, 0, 0, fun _ => 0, fun _ => 0, fun _ => 0, fun _ => 0, fun _ => 0, fun _ => 0, fun _ => 0, fun _ => 0, fun _ => 0), _, fun _ => 0, rfl, lw_wk0 X.γ a1, lw_inv0⟩
  subst hXe
  exact main s.heap [] _ (fun k q h => by simp at h) ⟨fun i j p q h => by simp at h, fun k q h => by simp at h⟩ va_S.rf hl
