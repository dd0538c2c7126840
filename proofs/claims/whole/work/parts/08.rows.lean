section HROWS
theorem vp_cell_I {cA : ClassId} {N : Nat} {f g : Nat → Int32} (h : ∀ k, k < N → f k = g k) : vp_cell cA (N, .inl f) = vp_cell cA (N, .inl g) := by
  show arrV cA N (fun j => .int (f j)) = arrV cA N (fun j => .int (g j))
  unfold arrV
  congr 1
  exact congrArg Array.ofFn (funext fun j => congrArg Value.int (h j.val j.isLt))
theorem vp_cell_J {cA : ClassId} {N : Nat} {f g : Nat → Int64} (h : ∀ k, k < N → f k = g k) : vp_cell cA (N, .inr (.inl f)) = vp_cell cA (N, .inr (.inl g)) := by
  show arrV cA N (fun j => .long (f j)) = arrV cA N (fun j => .long (g j))
  unfold arrV
  congr 1
  exact congrArg Array.ofFn (funext fun j => congrArg Value.long (h j.val j.isLt))
theorem va_P.canon {D : va_G} {cl : List vw_C} {A : Nat → Prop} {ws : va_W} {H : Heap} {q0 a : Nat} {e0 e : va_E} (hP : va_P D cl ws H) (hD : va_D A ws) (he : ws[q0]? = some (a, e0)) (h : va_at D cl (a, e0) H → va_at D cl (a, e) H) : va_P D cl (ws.set q0 (a, e)) H ∧ va_D A (ws.set q0 (a, e)) :=
  ⟨hP.set hD he (h (hP q0 _ he)) (fun _ _ => rfl), hD.set he⟩
theorem aI_canon {γ : GX} {N : Nat} {f g : Int → Int} {a : Nat} {H : Heap} (h : ∀ i : Int, 0 ≤ i → i < (N : Int) → f i = g i) (q : va_at γ.1 vwCl (a, aI γ N f) H) : va_at γ.1 vwCl (a, aI γ N g) H := by
  have q : H[a]? = some (vp_cell γ.2.1 (N, .inl (fun k : Nat => iN (f (k : Int))))) := q
  show H[a]? = some (vp_cell γ.2.1 (N, .inl (fun k : Nat => iN (g (k : Int)))))
  rw [q, vp_cell_I (fun k hk => by rw [h (k : Int) (by omega) (by omega)])]
theorem aJ_canon {γ : GX} {N : Nat} {f g : Int → Int} {a : Nat} {H : Heap} (h : ∀ i : Int, 0 ≤ i → i < (N : Int) → f i = g i) (q : va_at γ.1 vwCl (a, aJ γ N f) H) : va_at γ.1 vwCl (a, aJ γ N g) H := by
  have q : H[a]? = some (vp_cell γ.2.2.1 (N, .inr (.inl (fun k : Nat => jN (f (k : Int)))))) := q
  show H[a]? = some (vp_cell γ.2.2.1 (N, .inr (.inl (fun k : Nat => jN (g (k : Int))))))
  rw [q, vp_cell_J (fun k hk => by rw [h (k : Int) (by omega) (by omega)])]
variable {X : CX} {cc : ByteArray} {nL : Nat} {own : String} {Ts : List Cond} {rm : Room} {k n : Nat} {ws : va_W} {pc : Nat} {L : List (Nat × Value)} {st : List Value}
/-- an array's values by another function that is the same within its length -/
theorem x_canonI {N a : Nat} {f g : Int → Int} (q0 : Nat) (he : ws[q0]? = some (a, aI X.γ N f)) (h : ∀ i : Int, 0 ≤ i → i < (N : Int) → f i = g i) (ws' : va_W) (hw : ws.set q0 (a, aI X.γ N g) = ws') (kk : Wx X k n ws' pc L st) : Wx X k n ws pc L st := by
  intro H locs ls hP hD hS hl
  obtain ⟨h1, h2⟩ := va_P.canon hP hD he (aI_canon h)
  rw [hw] at h1 h2
  exact kk H locs ls h1 h2 hS hl
theorem x_canonJ {N a : Nat} {f g : Int → Int} (q0 : Nat) (he : ws[q0]? = some (a, aJ X.γ N f)) (h : ∀ i : Int, 0 ≤ i → i < (N : Int) → f i = g i) (ws' : va_W) (hw : ws.set q0 (a, aJ X.γ N g) = ws') (kk : Wx X k n ws' pc L st) : Wx X k n ws pc L st := by
  intro H locs ls hP hD hS hl
  obtain ⟨h1, h2⟩ := va_P.canon hP hD he (aJ_canon h)
  rw [hw] at h1 h2
  exact kk H locs ls h1 h2 hS hl
/-- what stands behind arraycopy -/
def cpz (f g : Int → Int) (sp dp n : Int) : Int → Int := fun j => if dp ≤ j ∧ j < dp + n then f (sp + (j - dp)) else g j
theorem x_copyI (C : Cx X cc nL own Ts rm) {index N0 N1 a0 a1 : Nat} {f g : Int → Int} {sp dp m : Int} (hl1 : Cond.methodLink own index arraycopyName ∈ Ts) (hl2 : Cond.native arraycopyName ∈ Ts) (hl3 : Cond.static arraycopyName ∈ Ts) (hl4 : Cond.initialized "java/lang/System" ∈ Ts) (q0 q1 : Nat) (he0 : ws[q0]? = some (a0, aI X.γ N0 f)) (he1 : ws[q1]? = some (a1, aI X.γ N1 g)) (h : 0 ≤ sp ∧ 0 ≤ dp ∧ 0 ≤ m ∧ sp + m ≤ (N0 : Int) ∧ dp + m ≤ (N1 : Int)) (hN : N0.ble 2147483647 = true ∧ N1.ble 2147483647 = true) (hroom : (Nat.ble 1 rm.frames && ((st.map fun v : Value => v.category).sum + 18).ble rm.locals) = true) (ws' : va_W) (hw : ws.set q1 (a1, aI X.γ N1 (cpz f g sp dp m)) = ws') (d : decode cc pc = .ok (.invokestatic index, 3)) (kk : Wx X k n ws' (pc + 3) L st) : Wx X k n ws pc L (.int (iN m) :: .int (iN dp) :: .ref a1 :: .int (iN sp) :: .ref a0 :: st) := by
  intro H locs ls hP hD hS hl
  have h0 : N0 ≤ 2147483647 := Nat.le_of_ble_eq_true hN.1
  have h1 : N1 ≤ 2147483647 := Nat.le_of_ble_eq_true hN.2
  have hRR := C.hR
  simp only [Bool.and_eq_true, Nat.ble_eq] at hroom
  have nn : ∀ z : Int, 0 ≤ z → z < 2147483648 → ¬ iN z < 0 := fun z h1 h2 q => by
    have q : iN z < iN 0 := q
    have := (iN_lt (by omega)).mp q
    omega
  refine va_copyi C.hx C.hb (C.hml.trans (hl.1.trans C.hnL).symm) C.hown (C.hts _ hl1) (C.hts _ hl2) (C.hts _ hl3) (C.hts _ hl4) C.hK.1 hP hD hS q0 q1 0 0 (ty := .int) (f := fun k : Nat => iN (f (k : Int))) (g := fun k : Nat => iN (g (k : Int))) (n0 := N0) (n1 := N1) (c0 := X.γ.2.1) (c1 := X.γ.2.1) he0 he1 rfl rfl rfl (nn sp (by omega) (by omega)) (nn dp (by omega) (by omega)) (nn m (by omega) (by omega)) ?_ ?_ (fun i hi => rfl) (by rw [hRR]; exact hroom.1) (by rw [hRR]; exact hroom.2) d (fun H1 locs1 hP hD hS => ?_)
  · rw [iN_clamp (by omega), iN_clamp (by omega)]; omega
  · rw [iN_clamp (by omega), iN_clamp (by omega)]; omega
  · rw [iN_clamp (a := sp) (by omega), iN_clamp (a := dp) (by omega), iN_clamp (a := m) (by omega)] at hP hD
    have e : va_cpy (fun k : Nat => iN (f (k : Int))) (fun k : Nat => iN (g (k : Int))) sp.toNat dp.toNat m.toNat = fun k : Nat => iN (cpz f g sp dp m (k : Int)) := by
      funext j
      unfold va_cpy cpz
      by_cases q : dp.toNat ≤ j ∧ j < dp.toNat + m.toNat
      · rw [if_pos q, if_pos (by omega)]
        have e2 : ((sp.toNat + (j - dp.toNat) : Nat) : Int) = sp + ((j : Int) - dp) := by omega
        show iN (f _) = iN (f _)
        rw [e2]
      · rw [if_neg q, if_neg (by omega)]
    rw [e] at hP hD
    have hw' : ws.set q1 (a1, Sum.inl (X.γ.2.1, N1, .inl (fun k : Nat => iN (cpz f g sp dp m (k : Int))))) = ws' := hw
    rw [hw'] at hP hD
    exact kk H1 locs1 ls hP hD hS hl
theorem x_abs (C : Cx X cc nL own Ts rm) {index : Nat} {a : Int} (hl1 : Cond.methodLink own index Lib.Math.abs.name ∈ Ts) (hl2 : Cond.static Lib.Math.abs.name ∈ Ts) (hl3 : Cond.initialized "java/lang/Math" ∈ Ts) (hl4 : Cond.code Lib.Math.abs.name Lib.Math.abs.code 1 (some .int) ∈ Ts) (h : -2147483648 ≤ a ∧ a < 2147483648) (hroom : (Nat.ble 1 rm.frames && ((st.map fun v : Value => v.category).sum + 13).ble rm.locals && k.ble rm.cells && n.ble rm.slots) = true) (d : decode cc pc = .ok (.invokestatic index, 3)) (kk : Wx X k n ws (pc + 3) L (.int (iN (if 0 ≤ a then a else - a)) :: st)) : Wx X k n ws pc L (.int (iN a) :: st) := by
  intro H locs ls hP hD hS hl
  have hRR := C.hR
  simp only [Bool.and_eq_true, Nat.ble_eq] at hroom
  refine va_mabs C.hx C.hb (C.hml.trans (hl.1.trans C.hnL).symm) C.hown (C.hts _ hl1) (C.hts _ hl2) (C.hts _ hl3) (C.hts _ hl4) (by rw [hRR]; exact hroom.1.1.1) (by rw [hRR]; exact hroom.1.1.2) (by rw [hRR]; exact hroom.1.2) (by rw [hRR]; exact hroom.2) d ?_
  have e : (if 0 ≤ iN a then iN a else 0 - iN a) = iN (if 0 ≤ a then a else - a) := by
    have hz : (0 : Int32) = iN 0 := rfl
    by_cases q : 0 ≤ a
    · rw [if_pos q, if_pos]
      rw [hz]; exact (iN_le (by omega)).mpr q
    · rw [if_neg q, if_neg]
      · rw [hz, iN_sub]; congr 1; omega
      · rw [hz]; exact fun z => q ((iN_le (by omega)).mp z)
  rw [e]
  exact kk H locs ls hP hD hS hl
theorem x_max (C : Cx X cc nL own Ts rm) {index : Nat} {a b : Int} (hl1 : Cond.methodLink own index Lib.Math.max.name ∈ Ts) (hl2 : Cond.static Lib.Math.max.name ∈ Ts) (hl3 : Cond.initialized "java/lang/Math" ∈ Ts) (hl4 : Cond.code Lib.Math.max.name Lib.Math.max.code 2 (some .int) ∈ Ts) (h : -2147483648 ≤ a ∧ a < 2147483648 ∧ -2147483648 ≤ b ∧ b < 2147483648) (hroom : (Nat.ble 1 rm.frames && ((st.map fun v : Value => v.category).sum + 13).ble rm.locals && k.ble rm.cells && n.ble rm.slots) = true) (d : decode cc pc = .ok (.invokestatic index, 3)) (kk : Wx X k n ws (pc + 3) L (.int (iN (max a b)) :: st)) : Wx X k n ws pc L (.int (iN b) :: .int (iN a) :: st) := by
  intro H locs ls hP hD hS hl
  have hRR := C.hR
  simp only [Bool.and_eq_true, Nat.ble_eq] at hroom
  refine va_mmax C.hx C.hb (C.hml.trans (hl.1.trans C.hnL).symm) C.hown (C.hts _ hl1) (C.hts _ hl2) (C.hts _ hl3) (C.hts _ hl4) (by rw [hRR]; exact hroom.1.1.1) (by rw [hRR]; exact hroom.1.1.2) (by rw [hRR]; exact hroom.1.2) (by rw [hRR]; exact hroom.2) d ?_
  have e : (if iN a < iN b then iN b else iN a) = iN (max a b) := by
    by_cases q : a < b
    · rw [if_pos ((iN_lt h).mpr q)]; congr 1; omega
    · rw [if_neg (fun z => q ((iN_lt h).mp z))]; congr 1; omega
  rw [e]
  exact kk H locs ls hP hD hS hl
theorem x_min (C : Cx X cc nL own Ts rm) {index : Nat} {a b : Int} (hl1 : Cond.methodLink own index Lib.Math.min.name ∈ Ts) (hl2 : Cond.static Lib.Math.min.name ∈ Ts) (hl3 : Cond.initialized "java/lang/Math" ∈ Ts) (hl4 : Cond.code Lib.Math.min.name Lib.Math.min.code 2 (some .int) ∈ Ts) (h : -2147483648 ≤ a ∧ a < 2147483648 ∧ -2147483648 ≤ b ∧ b < 2147483648) (hroom : (Nat.ble 1 rm.frames && ((st.map fun v : Value => v.category).sum + 13).ble rm.locals && k.ble rm.cells && n.ble rm.slots) = true) (d : decode cc pc = .ok (.invokestatic index, 3)) (kk : Wx X k n ws (pc + 3) L (.int (iN (min a b)) :: st)) : Wx X k n ws pc L (.int (iN b) :: .int (iN a) :: st) := by
  intro H locs ls hP hD hS hl
  have hRR := C.hR
  simp only [Bool.and_eq_true, Nat.ble_eq] at hroom
  refine va_mmin C.hx C.hb (C.hml.trans (hl.1.trans C.hnL).symm) C.hown (C.hts _ hl1) (C.hts _ hl2) (C.hts _ hl3) (C.hts _ hl4) (by rw [hRR]; exact hroom.1.1.1) (by rw [hRR]; exact hroom.1.1.2) (by rw [hRR]; exact hroom.1.2) (by rw [hRR]; exact hroom.2) d ?_
  have e : (if iN b < iN a then iN b else iN a) = iN (min a b) := by
    have h' : -2147483648 ≤ b ∧ b < 2147483648 ∧ -2147483648 ≤ a ∧ a < 2147483648 := ⟨h.2.2.1, h.2.2.2, h.1, h.2.1⟩
    by_cases q : b < a
    · rw [if_pos ((iN_lt h').mpr q)]; congr 1; omega
    · rw [if_neg (fun z => q ((iN_lt h').mp z))]; congr 1; omega
  rw [e]
  exact kk H locs ls hP hD hS hl
theorem x_objInit (C : Cx X cc nL own Ts rm) {index a : Nat} (h1 : Cond.methodLink own index objectInit ∈ Ts) (h2 : Cond.instanceMethod objectInit ∈ Ts) (h3 : Cond.code objectInit ⟨#[0xb1]⟩ 1 none ∈ Ts) (hroom : (Nat.ble 1 rm.frames && ((st.map fun v : Value => v.category).sum + 12).ble rm.locals) = true) (d : decode cc pc = .ok (.invokespecial index, 3)) (kk : Wx X k n ws (pc + 3) L st) : Wx X k n ws pc L (.ref a :: st) := by
  intro H locs ls hP hD hS hl
  have hRR := C.hR
  simp only [Bool.and_eq_true, Nat.ble_eq] at hroom
  refine W.objInit C.hx C.hb C.hown (C.hts _ h1) (C.hts _ h2) (C.hts _ h3) rfl ((hl.1.trans C.hnL).trans C.hml.symm) rfl d (by rw [hRR]; exact hroom.1) ?_ ?_
  · rw [hRR]
    show 2 * 0 + _ + 12 ≤ _
    rw [Nat.mul_zero, Nat.zero_add]
    exact hroom.2
  · exact W.eq rfl (kk H locs ls hP hD hS hl)
theorem isSub2 {vm : Vm} {c p : ClassId} {k : Class} (hk : vm.classes[c]? = some k) (hs : k.super = some p) : vm.isSubclass c p = true := by
  have hlt : c < vm.classes.size := (Array.getElem?_eq_some_iff.mp hk).1
  unfold Vm.isSubclass
  cases h : vm.classes.size with
  | zero => exact absurd hlt (by rw [h]; exact Nat.not_lt_zero _)
  | succ m => simp [Vm.isSubclassAux, hk, hs]
/-- super.f() of a method that the superclass itself inherits (follows va_callSU, va_runSU) -/
theorem x_Q_I (C : Cx X cc nL own Ts rm) {y x : MethodName} {wsY wsY' : List Cond} {rmY : Room} {bytes : ByteArray} {maxL mc ms index : Nat} {ret : Option FieldType} {As rest st0 : List Value} {post : Int → va_W → Prop} (nA : Nat) {Cn : String} {T : u_T} {N ci b : Nat} {fs : List Value} (q0 : Nat) (he : ws[q0]? = some (b, ob ci fs)) (hc : vwCl[ci]? = some (Cn, T, N)) (hwsY : wsY = [Cond.code y bytes maxL ret])
    (hl1 : Cond.methodLink own index x ∈ extL) (hl2 : Cond.sameMethod x.cls y.cls x.name x.desc ∈ extL) (hl3 : Cond.superclass own x.cls ∈ extL) (hl4 : Cond.superclass x.cls y.cls ∈ extL) (hl5 : Cond.instanceMethod y ∈ extL) (hl6 : Cond.initialized y.cls ∈ extL) (hl7 : Cond.code y bytes maxL ret ∈ extL) (hyx : y = ⟨y.cls, x.name, x.desc⟩) (hno : x.name ≠ "<init>" ∧ (parseMethodDescriptor y.desc).map (fun d => d.parameters.length) = some nA)
    (hM : MI X.l X.γ y wsY rmY (.ref b :: As) ws post mc ms) (hR : roomOk rm rmY maxL k n mc ms = true) (hn : As.length = nA) (hst : st0 = As.reverse ++ .ref b :: rest) (hW : (rest.map fun v : Value => v.category).sum.ble 8 = true) (d : decode cc pc = .ok (.invokespecial index, 3)) (kk : ∀ (a : Int) (w1 : va_W), post a w1 → Wx X (k + mc) (n + ms) w1 (pc + 3) L (.int (iN a) :: rest)) : Wx X k n ws pc L st0 := by
  intro H locs ls hP hD hS hl
  obtain ⟨hR1, hR2, hR3, hR4⟩ := roomOk.out hR
  have hRR := C.hR
  subst hst
  have ext : ∀ w ∈ extL, w.before X.args X.s = true := fun w hw => va_Nw.use (by have := extL_ok w hw; simp only [Bool.and_eq_true] at this; exact this.1) (C.hK.2.2 w hw)
  have hr : va_Run X.p X.l X.e X.R X.s X.m X.args X.below X.meth X.c H locs k n mc ms (F0 X.m pc ls (As.reverse ++ .ref b :: rest)) rest (va_Qi (S := va_W) (fun r w => ∃ a, r = iN a ∧ post a w) (endG X.γ ws H.size) (va_A ws H.size) (Value.ref b :: As).toArray) (va_A ws H.size) := by
    obtain ⟨cellB, hcB, hoB, hclB⟩ := va_recv C.hK.1 hP hc he
    obtain ⟨hfc, kB, hkB, -⟩ := (C.hK.1.1 ci _ hc).2
    have hcls := Option.some.inj (hfc.symm.trans hclB)
    have hcode := ext _ hl7
    have hini := ext _ hl6
    obtain ⟨mk, methM, hnamed, hmethM, hstM, habM⟩ := Cond.instanceMethod_spec (ext _ hl5)
    obtain ⟨methM', cM, hmethM', -, -, -, -, -, -, hsigM⟩ := Cond.code_spec hnamed hcode
    cases hmethM.symm.trans hmethM'
    obtain ⟨ps, dk, kp, hps, hdk, hkp, hsuper, -, -, hnid⟩ := Cond.superclass_spec C.hown (ext _ hl3)
    obtain ⟨ps2, dk2, kp2, hps2, hdk2, hkp2, hsuper2, -, -, -⟩ := Cond.superclass_spec hps (ext _ hl4)
    have hn0 : X.s.methodNamed? ⟨y.cls, x.name, x.desc⟩ = some mk := by rw [← hyx]; exact hnamed
    have hpm : ps2 = mk.cls := Option.some.inj (hps2.symm.trans (findClass_of_methodNamed hnamed))
    have hsub : X.s.vm.isSubclass ps mk.cls = true := by rw [← hpm]; exact isSub2 hdk2 hsuper2
    have hK : Back X.l X.R X.p X.e X.below X.s X.args y 3 8 (PreOf X.R mc ms (preG X.γ (.ref b :: As) ws H.size)) (PostOf _ mc ms _) :=
      back_of (bytes := bytes) (maxL := maxL) (ret := ret) (hM H.size) (preG.blind _ _ _ _) hR3 hR4 (by rw [hRR]; exact hR1.1) (by rw [hRR]; exact hR1.2) (fun w hw a' U hWa => by
        rw [hwsY, List.mem_singleton] at hw
        subst hw
        exact word_at hWa (Or.inl (by first | rfl | simp [Cond.onTables, Cond.keeps, Cond.steady])) hcode) (by rw [hwsY]; exact List.mem_singleton.mpr rfl) (fun a' U hWa => word_at hWa (Or.inl (by first | rfl | simp [Cond.onTables, Cond.keeps, Cond.steady])) hini)
    have hlen : ∀ sig, parseMethodDescriptor y.desc = some sig → As.length = sig.parameters.length := fun sig h => by
      have h2 := hno.2
      rw [h] at h2
      exact hn.trans (Option.some.inj h2).symm
    intro T hT X'
    obtain ⟨vm₁, X₁, hstep₁⟩ := X'.invokespecialUp C.hx C.hown (ext _ hl1) (ext _ hl2) hn0 hmethM hstM habM hno.1 hdk hnid hps hsuper hsub (a := b) (cell := cellB) (by rw [hT]; exact hcB)
      (fun z h => by rw [h] at hoB; cases hoB) (by rw [← hcls]; exact hkB) (g := F0 X.m pc ls (As.reverse ++ .ref b :: rest)) rfl (argsL := As) (rest := rest) (hlen _ hsigM) rfl (by rw [C.hb]; exact d)
    obtain ⟨v, B, X2, hpost, hsteps⟩ := hK X.m X.meth X.c ⟨T.setVm vm₁, locs, k, n⟩ { (F0 X.m pc ls (As.reverse ++ .ref b :: rest)) with stack := rest } (.invokespecial index) mk (Value.ref b :: As).toArray X₁ rfl ((hl.1.trans C.hnL).trans C.hml.symm) (by rw [C.hb]; exact d) (lv_room (Nat.le_of_ble_eq_true hW)) (X₁.named hnamed) ⟨by rw [hRR]; exact hR2.1, by rw [hRR]; exact hR2.2, preG.at (by exact hT) X₁.warmed C.hK hP hD⟩
    obtain ⟨g', mk', t, L', e1, e2, hq, h1, hL, h2, h3⟩ := hpost
    obtain ⟨BU, Bl, Bc, Bs⟩ := B
    dsimp only [Pt.U, Pt.locs, Pt.cells, Pt.slots] at X2 e1 e2 h1 h2 h3 hsteps hq
    subst h1; subst h2; subst h3
    exact ⟨v, (T.setVm vm₁).calling g' mk' (Value.ref b :: As).toArray, t, BU, L', hT, X2, hL, e1, e2, hq, fun target h => hstep₁ _ (by rw [doInvoke_state]; exact hsteps.trans h)⟩
  exact va_calli hr hS (fun q _ h => va_A.le hD hS C.hA q h) (va_A.le hD hS C.hA) (fun r w1 t H1 locs1 ht hvm hw hB hz hk1 hS1 => by
      obtain ⟨a, rfl, hp⟩ := hw
      obtain ⟨hP1, hD1⟩ := hB
      rw [ht] at hP1
      exact kk a w1 hp H1 locs1 ls hP1 (hD1.weaken (fun _ q _ h => va_A.le hD hS C.hA q.1 h)) hS1 hl)
end HROWS
