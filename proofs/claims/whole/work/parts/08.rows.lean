section HROWS
theorem vp_cell_I {cA : ClassId} {N : Nat} {f g : Nat → Int32} (h : ∀ k, k < N → f k = g k) : vp_cell cA (N, .inl f) = vp_cell cA (N, .inl g) := by
  show arrV cA N (fun j => .int (f j)) = arrV cA N (fun j => .int (g j))
  unfold arrV
  congr 1
  exact congrArg Array.ofFn (funext fun j => congrArg Value.int (h j.val j.isLt))
theorem vp_cell_J {cA : ClassId} {N : Nat} {f g : Nat → Int64} (h : ∀ k, k < N → f k = g k) : vp_cell cA (N, .inr (.inl f)) = vp_cell cA (N, .inr (.inl g)) := by
  show arrV cA N (fun j => .long (f j)) = arrV cA N (fun j => .long (g j))
  unfold arrV
  congr 1
  exact congrArg Array.ofFn (funext fun j => congrArg Value.long (h j.val j.isLt))
theorem va_P.canon {D : va_G} {cl : List vw_C} {A : Nat → Prop} {ws : va_W} {H : Heap} {q0 a : Nat} {e0 e : va_E} (hP : va_P D cl ws H) (hD : va_D A ws) (he : ws[q0]? = some (a, e0)) (h : va_at D cl (a, e0) H → va_at D cl (a, e) H) : va_P D cl (ws.set q0 (a, e)) H ∧ va_D A (ws.set q0 (a, e)) :=
  ⟨hP.set hD he (h (hP q0 _ he)) (fun _ _ => rfl), hD.set he⟩
theorem aI_canon {γ : GX} {N : Nat} {f g : Int → Int} {a : Nat} {H : Heap} (h : ∀ i : Int, 0 ≤ i → i < (N : Int) → f i = g i) (q : va_at γ.1 vwCl (a, aI γ N f) H) : va_at γ.1 vwCl (a, aI γ N g) H := by
  have q : H[a]? = some (vp_cell γ.2.1 (N, .inl (fun k : Nat => iN (f (k : Int))))) := q
  show H[a]? = some (vp_cell γ.2.1 (N, .inl (fun k : Nat => iN (g (k : Int)))))
  rw [q, vp_cell_I (fun k hk => by rw [h (k : Int) (by omega) (by omega)])]
theorem aJ_canon {γ : GX} {N : Nat} {f g : Int → Int} {a : Nat} {H : Heap} (h : ∀ i : Int, 0 ≤ i → i < (N : Int) → f i = g i) (q : va_at γ.1 vwCl (a, aJ γ N f) H) : va_at γ.1 vwCl (a, aJ γ N g) H := by
  have q : H[a]? = some (vp_cell γ.2.2.1 (N, .inr (.inl (fun k : Nat => jN (f (k : Int)))))) := q
  show H[a]? = some (vp_cell γ.2.2.1 (N, .inr (.inl (fun k : Nat => jN (g (k : Int))))))
  rw [q, vp_cell_J (fun k hk => by rw [h (k : Int) (by omega) (by omega)])]
variable {X : CX} {cc : ByteArray} {nL : Nat} {own : String} {Ts : List Cond} {rm : Room} {k n : Nat} {ws : va_W} {pc : Nat} {L : List (Nat × Value)} {st : List Value}
/-- an array's values by another function that is the same within its length -/
theorem x_canonI {N a : Nat} {f g : Int → Int} (q0 : Nat) (he : ws[q0]? = some (a, aI X.γ N f)) (h : ∀ i : Int, 0 ≤ i → i < (N : Int) → f i = g i) (ws' : va_W) (hw : ws.set q0 (a, aI X.γ N g) = ws') (kk : Wx X k n ws' pc L st) : Wx X k n ws pc L st := by
  intro H locs ls hP hD hS hl
  obtain ⟨h1, h2⟩ := va_P.canon hP hD he (aI_canon h)
  rw [hw] at h1 h2
  exact kk H locs ls h1 h2 hS hl
theorem x_canonJ {N a : Nat} {f g : Int → Int} (q0 : Nat) (he : ws[q0]? = some (a, aJ X.γ N f)) (h : ∀ i : Int, 0 ≤ i → i < (N : Int) → f i = g i) (ws' : va_W) (hw : ws.set q0 (a, aJ X.γ N g) = ws') (kk : Wx X k n ws' pc L st) : Wx X k n ws pc L st := by
  intro H locs ls hP hD hS hl
  obtain ⟨h1, h2⟩ := va_P.canon hP hD he (aJ_canon h)
  rw [hw] at h1 h2
  exact kk H locs ls h1 h2 hS hl
/-- what stands behind arraycopy -/
def cpz (f g : Int → Int) (sp dp n : Int) : Int → Int := fun j => if dp ≤ j ∧ j < dp + n then f (sp + (j - dp)) else g j
theorem x_copyI (C : Cx X cc nL own Ts rm) {index N0 N1 a0 a1 : Nat} {f g : Int → Int} {sp dp m : Int} (hl1 : Cond.methodLink own index arraycopyName ∈ Ts) (hl2 : Cond.native arraycopyName ∈ Ts) (hl3 : Cond.static arraycopyName ∈ Ts) (hl4 : Cond.initialized "java/lang/System" ∈ Ts) (q0 q1 : Nat) (he0 : ws[q0]? = some (a0, aI X.γ N0 f)) (he1 : ws[q1]? = some (a1, aI X.γ N1 g)) (h : 0 ≤ sp ∧ 0 ≤ dp ∧ 0 ≤ m ∧ sp + m ≤ (N0 : Int) ∧ dp + m ≤ (N1 : Int)) (hN : N0.ble 2147483647 = true ∧ N1.ble 2147483647 = true) (hroom : (Nat.ble 1 rm.frames && ((st.map fun v : Value => v.category).sum + 18).ble rm.locals) = true) (ws' : va_W) (hw : ws.set q1 (a1, aI X.γ N1 (cpz f g sp dp m)) = ws') (d : decode cc pc = .ok (.invokestatic index, 3)) (kk : Wx X k n ws' (pc + 3) L st) : Wx X k n ws pc L (.int (iN m) :: .int (iN dp) :: .ref a1 :: .int (iN sp) :: .ref a0 :: st) := by
  intro H locs ls hP hD hS hl
  have h0 : N0 ≤ 2147483647 := Nat.le_of_ble_eq_true hN.1
  have h1 : N1 ≤ 2147483647 := Nat.le_of_ble_eq_true hN.2
  have hRR := C.hR
  simp only [Bool.and_eq_true, Nat.ble_eq] at hroom
  have nn : ∀ z : Int, 0 ≤ z → z < 2147483648 → ¬ iN z < 0 := fun z h1 h2 q => by
    have q : iN z < iN 0 := q
    have := (iN_lt (by omega)).mp q
    omega
  refine va_copyi C.hx C.hb (C.hml.trans (hl.1.trans C.hnL).symm) C.hown (C.hts _ hl1) (C.hts _ hl2) (C.hts _ hl3) (C.hts _ hl4) C.hK.1 hP hD hS q0 q1 0 0 (ty := .int) (f := fun k : Nat => iN (f (k : Int))) (g := fun k : Nat => iN (g (k : Int))) (n0 := N0) (n1 := N1) (c0 := X.γ.2.1) (c1 := X.γ.2.1) he0 he1 rfl rfl rfl (nn sp (by omega) (by omega)) (nn dp (by omega) (by omega)) (nn m (by omega) (by omega)) ?_ ?_ (fun i hi => rfl) (by rw [hRR]; exact hroom.1) (by rw [hRR]; exact hroom.2) d (fun H1 locs1 hP hD hS => ?_)
  · rw [iN_clamp (by omega), iN_clamp (by omega)]; omega
  · rw [iN_clamp (by omega), iN_clamp (by omega)]; omega
  · rw [iN_clamp (a := sp) (by omega), iN_clamp (a := dp) (by omega), iN_clamp (a := m) (by omega)] at hP hD
    have e : va_cpy (fun k : Nat => iN (f (k : Int))) (fun k : Nat => iN (g (k : Int))) sp.toNat dp.toNat m.toNat = fun k : Nat => iN (cpz f g sp dp m (k : Int)) := by
      funext j
      unfold va_cpy cpz
      by_cases q : dp.toNat ≤ j ∧ j < dp.toNat + m.toNat
      · rw [if_pos q, if_pos (by omega)]
        have e2 : ((sp.toNat + (j - dp.toNat) : Nat) : Int) = sp + ((j : Int) - dp) := by omega
        show iN (f _) = iN (f _)
        rw [e2]
      · rw [if_neg q, if_neg (by omega)]
    rw [e] at hP hD
    have hw' : ws.set q1 (a1, Sum.inl (X.γ.2.1, N1, .inl (fun k : Nat => iN (cpz f g sp dp m (k : Int))))) = ws' := hw
    rw [hw'] at hP hD
    exact kk H1 locs1 ls hP hD hS hl
theorem x_abs (C : Cx X cc nL own Ts rm) {index : Nat} {a : Int} (hl1 : Cond.methodLink own index Lib.Math.abs.name ∈ Ts) (hl2 : Cond.static Lib.Math.abs.name ∈ Ts) (hl3 : Cond.initialized "java/lang/Math" ∈ Ts) (hl4 : Cond.code Lib.Math.abs.name Lib.Math.abs.code 1 (some .int) ∈ Ts) (h : -2147483648 ≤ a ∧ a < 2147483648) (hroom : (Nat.ble 1 rm.frames && ((st.map fun v : Value => v.category).sum + 13).ble rm.locals && k.ble rm.cells && n.ble rm.slots) = true) (d : decode cc pc = .ok (.invokestatic index, 3)) (kk : Wx X k n ws (pc + 3) L (.int (iN (if 0 ≤ a then a else - a)) :: st)) : Wx X k n ws pc L (.int (iN a) :: st) := by
  intro H locs ls hP hD hS hl
  have hRR := C.hR
  simp only [Bool.and_eq_true, Nat.ble_eq] at hroom
  refine va_mabs C.hx C.hb (C.hml.trans (hl.1.trans C.hnL).symm) C.hown (C.hts _ hl1) (C.hts _ hl2) (C.hts _ hl3) (C.hts _ hl4) (by rw [hRR]; exact hroom.1.1.1) (by rw [hRR]; exact hroom.1.1.2) (by rw [hRR]; exact hroom.1.2) (by rw [hRR]; exact hroom.2) d ?_
  have e : (if 0 ≤ iN a then iN a else 0 - iN a) = iN (if 0 ≤ a then a else - a) := by
    have hz : (0 : Int32) = iN 0 := rfl
    by_cases q : 0 ≤ a
    · rw [if_pos q, if_pos]
      rw [hz]; exact (iN_le (by omega)).mpr q
    · rw [if_neg q, if_neg]
      · rw [hz, iN_sub]; congr 1; omega
      · rw [hz]; exact fun z => q ((iN_le (by omega)).mp z)
  rw [e]
  exact kk H locs ls hP hD hS hl
theorem x_max (C : Cx X cc nL own Ts rm) {index : Nat} {a b : Int} (hl1 : Cond.methodLink own index Lib.Math.max.name ∈ Ts) (hl2 : Cond.static Lib.Math.max.name ∈ Ts) (hl3 : Cond.initialized "java/lang/Math" ∈ Ts) (hl4 : Cond.code Lib.Math.max.name Lib.Math.max.code 2 (some .int) ∈ Ts) (h : -2147483648 ≤ a ∧ a < 2147483648 ∧ -2147483648 ≤ b ∧ b < 2147483648) (hroom : (Nat.ble 1 rm.frames && ((st.map fun v : Value => v.category).sum + 13).ble rm.locals && k.ble rm.cells && n.ble rm.slots) = true) (d : decode cc pc = .ok (.invokestatic index, 3)) (kk : Wx X k n ws (pc + 3) L (.int (iN (max a b)) :: st)) : Wx X k n ws pc L (.int (iN b) :: .int (iN a) :: st) := by
  intro H locs ls hP hD hS hl
  have hRR := C.hR
  simp only [Bool.and_eq_true, Nat.ble_eq] at hroom
  refine va_mmax C.hx C.hb (C.hml.trans (hl.1.trans C.hnL).symm) C.hown (C.hts _ hl1) (C.hts _ hl2) (C.hts _ hl3) (C.hts _ hl4) (by rw [hRR]; exact hroom.1.1.1) (by rw [hRR]; exact hroom.1.1.2) (by rw [hRR]; exact hroom.1.2) (by rw [hRR]; exact hroom.2) d ?_
  have e : (if iN a < iN b then iN b else iN a) = iN (max a b) := by
    by_cases q : a < b
    · rw [if_pos ((iN_lt h).mpr q)]; congr 1; omega
    · rw [if_neg (fun z => q ((iN_lt h).mp z))]; congr 1; omega
  rw [e]
  exact kk H locs ls hP hD hS hl
theorem x_min (C : Cx X cc nL own Ts rm) {index : Nat} {a b : Int} (hl1 : Cond.methodLink own index Lib.Math.min.name ∈ Ts) (hl2 : Cond.static Lib.Math.min.name ∈ Ts) (hl3 : Cond.initialized "java/lang/Math" ∈ Ts) (hl4 : Cond.code Lib.Math.min.name Lib.Math.min.code 2 (some .int) ∈ Ts) (h : -2147483648 ≤ a ∧ a < 2147483648 ∧ -2147483648 ≤ b ∧ b < 2147483648) (hroom : (Nat.ble 1 rm.frames && ((st.map fun v : Value => v.category).sum + 13).ble rm.locals && k.ble rm.cells && n.ble rm.slots) = true) (d : decode cc pc = .ok (.invokestatic index, 3)) (kk : Wx X k n ws (pc + 3) L (.int (iN (min a b)) :: st)) : Wx X k n ws pc L (.int (iN b) :: .int (iN a) :: st) := by
  intro H locs ls hP hD hS hl
  have hRR := C.hR
  simp only [Bool.and_eq_true, Nat.ble_eq] at hroom
  refine va_mmin C.hx C.hb (C.hml.trans (hl.1.trans C.hnL).symm) C.hown (C.hts _ hl1) (C.hts _ hl2) (C.hts _ hl3) (C.hts _ hl4) (by rw [hRR]; exact hroom.1.1.1) (by rw [hRR]; exact hroom.1.1.2) (by rw [hRR]; exact hroom.1.2) (by rw [hRR]; exact hroom.2) d ?_
  have e : (if iN b < iN a then iN b else iN a) = iN (min a b) := by
    have h' : -2147483648 ≤ b ∧ b < 2147483648 ∧ -2147483648 ≤ a ∧ a < 2147483648 := ⟨h.2.2.1, h.2.2.2, h.1, h.2.1⟩
    by_cases q : b < a
    · rw [if_pos ((iN_lt h').mpr q)]; congr 1; omega
    · rw [if_neg (fun z => q ((iN_lt h').mp z))]; congr 1; omega
  rw [e]
  exact kk H locs ls hP hD hS hl
theorem x_objInit (C : Cx X cc nL own Ts rm) {index a : Nat} (h1 : Cond.methodLink own index objectInit ∈ Ts) (h2 : Cond.instanceMethod objectInit ∈ Ts) (h3 : Cond.code objectInit ⟨#[0xb1]⟩ 1 none ∈ Ts) (hroom : (Nat.ble 1 rm.frames && ((st.map fun v : Value => v.category).sum + 12).ble rm.locals) = true) (d : decode cc pc = .ok (.invokespecial index, 3)) (kk : Wx X k n ws (pc + 3) L st) : Wx X k n ws pc L (.ref a :: st) := by
  intro H locs ls hP hD hS hl
  have hRR := C.hR
  simp only [Bool.and_eq_true, Nat.ble_eq] at hroom
  refine W.objInit C.hx C.hb C.hown (C.hts _ h1) (C.hts _ h2) (C.hts _ h3) rfl ((hl.1.trans C.hnL).trans C.hml.symm) rfl d (by rw [hRR]; exact hroom.1) ?_ ?_
  · rw [hRR]
    show 2 * 0 + _ + 12 ≤ _
    rw [Nat.mul_zero, Nat.zero_add]
    exact hroom.2
  · exact W.eq rfl (kk H locs ls hP hD hS hl)
end HROWS
