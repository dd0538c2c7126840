section HNEW
variable {X : CX} {cc : ByteArray} {nL : Nat} {own : String} {Ts : List Cond} {rm : Room} {k n : Nat} {ws : va_W} {pc : Nat} {L : List (Nat × Value)} {st : List Value}
theorem KG.ra {γ : GX} {U : State} (h : KG γ U) (t : Nat) {q : ClassId × FieldType} (hq : (tysG γ)[t]? = some q) : va_RA U q.1 q.2 := (h.1.2 t q hq).2
theorem x_newaI (C : Cx X cc nL own Ts rm) {n0 : Int} (N : Nat) (hn : n0 = (N : Int)) (hN : N.ble 100000 = true) (harr : Cond.arrayClass .int ∈ Ts) (hroom : ((k + 1).ble rm.cells && (n + N).ble rm.slots) = true) (d : decode cc pc = .ok (.newarray .int, 2)) (kk : ∀ q : Nat, Wx X (k + 1) (n + N) (ws ++ [(q, aI X.γ N (fun _ => 0))]) (pc + 2) L (.ref q :: st)) : Wx X k n ws pc L (.int (iN n0) :: st) := by
  intro H locs ls hP hD hS hl
  subst hn
  have hRR := C.hR
  simp only [Bool.and_eq_true, Nat.ble_eq] at hroom
  have hN' := Nat.le_of_ble_eq_true hN
  refine va_newa (atype := .int) C.hx C.hb (C.hts _ harr) (ty := .int) rfl C.hK.1 hP hD hS C.hA (N' := N) (a0 := (N, .inl (fun _ => iN 0))) (fun cA => rfl) ?_ ?_ ?_ (by rw [hRR]; exact hroom.1) (by rw [hRR]; exact hroom.2) d (fun q cA H1 hK1 hP1 hD1 hS1 => ?_)
  · intro z
    have z : iN (N : Int) < iN 0 := z
    have := (iN_lt (by omega)).mp z
    omega
  · rw [iN_clamp (by omega)]
    omega
  · show N * _ ≤ _
    have : componentBytes .int ≤ 8 := by decide
    exact Nat.le_trans (Nat.mul_le_mul hN' this) (by decide)
  · have e1 := (hK1.2 4 (cA, .int) rfl).2
    have e2 := C.hK.ra 0 rfl
    have e : cA = X.γ.2.1 := Option.some.inj ((show _ = some cA from e1).symm.trans e2)
    subst e
    exact kk q H1 locs ls hP1 hD1 hS1 hl
theorem x_newaJ (C : Cx X cc nL own Ts rm) {n0 : Int} (N : Nat) (hn : n0 = (N : Int)) (hN : N.ble 100000 = true) (harr : Cond.arrayClass .long ∈ Ts) (hroom : ((k + 1).ble rm.cells && (n + N).ble rm.slots) = true) (d : decode cc pc = .ok (.newarray .long, 2)) (kk : ∀ q : Nat, Wx X (k + 1) (n + N) (ws ++ [(q, aJ X.γ N (fun _ => 0))]) (pc + 2) L (.ref q :: st)) : Wx X k n ws pc L (.int (iN n0) :: st) := by
  intro H locs ls hP hD hS hl
  subst hn
  have hRR := C.hR
  simp only [Bool.and_eq_true, Nat.ble_eq] at hroom
  have hN' := Nat.le_of_ble_eq_true hN
  refine va_newa (atype := .long) C.hx C.hb (C.hts _ harr) (ty := .long) rfl C.hK.1 hP hD hS C.hA (N' := N) (a0 := (N, .inr (.inl (fun _ => jN 0)))) (fun cA => rfl) ?_ ?_ ?_ (by rw [hRR]; exact hroom.1) (by rw [hRR]; exact hroom.2) d (fun q cA H1 hK1 hP1 hD1 hS1 => ?_)
  · intro z
    have z : iN (N : Int) < iN 0 := z
    have := (iN_lt (by omega)).mp z
    omega
  · rw [iN_clamp (by omega)]
    omega
  · show N * _ ≤ _
    have : componentBytes .long ≤ 8 := by decide
    exact Nat.le_trans (Nat.mul_le_mul hN' this) (by decide)
  · have e1 := (hK1.2 4 (cA, .long) rfl).2
    have e2 := C.hK.ra 1 rfl
    have e : cA = X.γ.2.2.1 := Option.some.inj ((show _ = some cA from e1).symm.trans e2)
    subst e
    exact kk q H1 locs ls hP1 hD1 hS1 hl
theorem x_newqS (C : Cx X cc nL own Ts rm) {n0 : Int} {index : Nat} (N : Nat) (hn : n0 = (N : Int)) (hN : N.ble 100000 = true) (hcl : Cond.classLink own index RX5 ∈ Ts) (harr : Cond.arrayOver (.object RX5) ∈ Ts) (hroom : ((k + 1).ble rm.cells && (n + N).ble rm.slots) = true) (d : decode cc pc = .ok (.anewarray index, 3)) (kk : ∀ q : Nat, Wx X (k + 1) (n + N) (ws ++ [(q, aS X.γ N (fun _ => none))]) (pc + 3) L (.ref q :: st)) : Wx X k n ws pc L (.int (iN n0) :: st) := by
  intro H locs ls hP hD hS hl
  subst hn
  have hRR := C.hR
  simp only [Bool.and_eq_true, Nat.ble_eq] at hroom
  have hN' := Nat.le_of_ble_eq_true hN
  refine va_newq (C := RX5) C.hx C.hb C.hown (C.hts _ hcl) (va_AO.of (C.hts _ harr)) C.hK.1 hP hD hS C.hA (N' := N) ?_ ?_ ?_ (by rw [hRR]; exact hroom.1) (by rw [hRR]; exact hroom.2) d (fun q cA H1 hK1 hP1 hD1 hS1 => ?_)
  · intro z
    have z : iN (N : Int) < iN 0 := z
    have := (iN_lt (by omega)).mp z
    omega
  · rw [iN_clamp (by omega)]
    omega
  · omega
  · obtain ⟨_, _, _, _, _, e1⟩ := (hK1.2 4 (cA, .object RX5) rfl).2
    obtain ⟨_, _, _, _, _, e2⟩ := C.hK.ra 2 rfl
    have e : cA = X.γ.2.2.2.1 := Option.some.inj (e1.symm.trans e2)
    subst e
    exact kk q H1 locs ls hP1 hD1 hS1 hl
theorem aS_upd (γ : GX) (N : Nat) (f : Int → Option Nat) {i : Int} {v : Nat} (h : 0 ≤ i ∧ i < 2147483648) : (Sum.inl (γ.2.2.2.1, N, .inr (.inr (.inr (.inr (va_up (fun k : Nat => f (k : Int)) (iN i).toNatClampNeg (some v)))))) : va_E) = aS γ N (upz f i (some v)) := by
  have e : va_up (fun k : Nat => f (k : Int)) (iN i).toNatClampNeg (some v) = fun k : Nat => upz f i (some v) (k : Int) := by
    funext j
    rw [iN_clamp (by omega)]
    unfold va_up upz
    by_cases q : (j : Int) = i
    · rw [if_pos (by omega), if_pos q]
    · rw [if_neg (by omega), if_neg q]
  rw [e]
  rfl
theorem x_aastS (C : Cx X cc nL own Ts rm) {N a b ci : Nat} {f : Int → Option Nat} {i : Int} (q0 q1 : Nat) (he : ws[q0]? = some (a, aS X.γ N f)) {vs : List Value} (hv : ws[q1]? = some (b, ob ci vs)) {r : vw_C} (hc : vwCl[ci]? = some r) (hr : r.1 = RX5 ∨ Cond.castable r.1 RX5 ∈ Ts) (h : 0 ≤ i ∧ i < (N : Int)) (hn : N.ble 2147483647 = true) (ws' : va_W) (hw : ws.set q0 (a, aS X.γ N (upz f i (some b))) = ws') (d : decode cc pc = .ok (.aastore, 1)) (kk : Wx X k n ws' (pc + 1) L st) : Wx X k n ws pc L (.ref b :: .int (iN i) :: .ref a :: st) := by
  intro H locs ls hP hD hS hl
  have hn' : N ≤ 2147483647 := Nat.le_of_ble_eq_true hn
  rcases hr with hr | hr
  · refine va_astq C.hx C.hb C.hK.1 hP hD hS q0 2 q1 ci (r := r) (cA := X.γ.2.2.2.1) (n := N) (f := fun k : Nat => f (k : Int)) he (by rw [hr]; rfl) hv hc (iN_vin h hn) d (fun H1 locs1 hP hD hS => ?_)
    rw [aS_upd X.γ N f (by omega), hw] at hP hD
    exact kk H1 locs1 ls hP hD hS hl
  · refine va_astqO C.hx C.hb C.hK.1 hP hD hS q0 2 q1 ci (r := r) (E := RX5) (cA := X.γ.2.2.2.1) (n := N) (f := fun k : Nat => f (k : Int)) he rfl (va_Nw.of rfl (C.hts _ hr)) hv hc (iN_vin h hn) d (fun H1 locs1 hP hD hS => ?_)
    rw [aS_upd X.γ N f (by omega), hw] at hP hD
    exact kk H1 locs1 ls hP hD hS hl
theorem x_newqW (C : Cx X cc nL own Ts rm) {n0 : Int} {index : Nat} (N : Nat) (hn : n0 = (N : Int)) (hN : N.ble 100000 = true) (hcl : Cond.classLink own index RX9 ∈ Ts) (harr : Cond.arrayOver (.object RX9) ∈ Ts) (hroom : ((k + 1).ble rm.cells && (n + N).ble rm.slots) = true) (d : decode cc pc = .ok (.anewarray index, 3)) (kk : ∀ q : Nat, Wx X (k + 1) (n + N) (ws ++ [(q, aW X.γ N (fun _ => none))]) (pc + 3) L (.ref q :: st)) : Wx X k n ws pc L (.int (iN n0) :: st) := by
  intro H locs ls hP hD hS hl
  subst hn
  have hRR := C.hR
  simp only [Bool.and_eq_true, Nat.ble_eq] at hroom
  have hN' := Nat.le_of_ble_eq_true hN
  refine va_newq (C := RX9) C.hx C.hb C.hown (C.hts _ hcl) (va_AO.of (C.hts _ harr)) C.hK.1 hP hD hS C.hA (N' := N) ?_ ?_ ?_ (by rw [hRR]; exact hroom.1) (by rw [hRR]; exact hroom.2) d (fun q cA H1 hK1 hP1 hD1 hS1 => ?_)
  · intro z
    have z : iN (N : Int) < iN 0 := z
    have := (iN_lt (by omega)).mp z
    omega
  · rw [iN_clamp (by omega)]
    omega
  · omega
  · obtain ⟨_, _, _, _, _, e1⟩ := (hK1.2 4 (cA, .object RX9) rfl).2
    obtain ⟨_, _, _, _, _, e2⟩ := C.hK.ra 3 rfl
    have e : cA = X.γ.2.2.2.2 := Option.some.inj (e1.symm.trans e2)
    subst e
    exact kk q H1 locs ls hP1 hD1 hS1 hl
theorem aW_upd (γ : GX) (N : Nat) (f : Int → Option Nat) {i : Int} {v : Nat} (h : 0 ≤ i ∧ i < 2147483648) : (Sum.inl (γ.2.2.2.2, N, .inr (.inr (.inr (.inr (va_up (fun k : Nat => f (k : Int)) (iN i).toNatClampNeg (some v)))))) : va_E) = aW γ N (upz f i (some v)) := by
  have e : va_up (fun k : Nat => f (k : Int)) (iN i).toNatClampNeg (some v) = fun k : Nat => upz f i (some v) (k : Int) := by
    funext j
    rw [iN_clamp (by omega)]
    unfold va_up upz
    by_cases q : (j : Int) = i
    · rw [if_pos (by omega), if_pos q]
    · rw [if_neg (by omega), if_neg q]
  rw [e]
  rfl
theorem x_aastW (C : Cx X cc nL own Ts rm) {N a b ci : Nat} {f : Int → Option Nat} {i : Int} (q0 q1 : Nat) (he : ws[q0]? = some (a, aW X.γ N f)) {vs : List Value} (hv : ws[q1]? = some (b, ob ci vs)) {r : vw_C} (hc : vwCl[ci]? = some r) (hr : r.1 = RX9 ∨ Cond.castable r.1 RX9 ∈ Ts) (h : 0 ≤ i ∧ i < (N : Int)) (hn : N.ble 2147483647 = true) (ws' : va_W) (hw : ws.set q0 (a, aW X.γ N (upz f i (some b))) = ws') (d : decode cc pc = .ok (.aastore, 1)) (kk : Wx X k n ws' (pc + 1) L st) : Wx X k n ws pc L (.ref b :: .int (iN i) :: .ref a :: st) := by
  intro H locs ls hP hD hS hl
  have hn' : N ≤ 2147483647 := Nat.le_of_ble_eq_true hn
  rcases hr with hr | hr
  · refine va_astq C.hx C.hb C.hK.1 hP hD hS q0 3 q1 ci (r := r) (cA := X.γ.2.2.2.2) (n := N) (f := fun k : Nat => f (k : Int)) he (by rw [hr]; rfl) hv hc (iN_vin h hn) d (fun H1 locs1 hP hD hS => ?_)
    rw [aW_upd X.γ N f (by omega), hw] at hP hD
    exact kk H1 locs1 ls hP hD hS hl
  · refine va_astqO C.hx C.hb C.hK.1 hP hD hS q0 3 q1 ci (r := r) (E := RX9) (cA := X.γ.2.2.2.2) (n := N) (f := fun k : Nat => f (k : Int)) he rfl (va_Nw.of rfl (C.hts _ hr)) hv hc (iN_vin h hn) d (fun H1 locs1 hP hD hS => ?_)
    rw [aW_upd X.γ N f (by omega), hw] at hP hD
    exact kk H1 locs1 ls hP hD hS hl
theorem x_new (C : Cx X cc nL own Ts rm) {Cn : String} {T : u_T} {N ci index : Nat} (hin : ∀ w ∈ u_ws Cn T N, w ∈ Ts) (ty0 : Nat → FieldType) (hty : ∀ j, j < N → parseFieldDescriptor (T j).2.2.1 = some (ty0 j)) (hcl : Cond.classLink own index Cn ∈ Ts) (hinst : Cond.instantiable Cn N ∈ Ts) (hini : Cond.initialized Cn ∈ Ts) (hc : vwCl[ci]? = some (Cn, T, N)) (fs : List Value) (hfs : ∀ j, j < N → defaultValue (ty0 j) = vp_V fs j) (hroom : ((k + 1).ble rm.cells && (n + N).ble rm.slots) = true) (d : decode cc pc = .ok (.new index, 3)) (kk : ∀ q : Nat, Wx X (k + 1) (n + N) (ws ++ [(q, ob ci fs)]) (pc + 3) L (.ref q :: st)) : Wx X k n ws pc L st := by
  intro H locs ls hP hD hS hl
  have hRR := C.hR
  simp only [Bool.and_eq_true, Nat.ble_eq] at hroom
  exact va_new C.hx C.hb C.hts hin ty0 hty C.hown (C.hts _ hcl) (C.hts _ hinst) (C.hts _ hini) C.hK.1 hP hD hS C.hA hc hfs (by rw [hRR]; exact hroom.1) (by rw [hRR]; exact hroom.2) d (fun q H1 hP hD hS => kk q H1 locs ls hP hD hS hl)
end HNEW
