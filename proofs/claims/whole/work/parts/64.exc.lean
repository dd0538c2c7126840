/-! ===== BEGIN a method of a class above, found by the receiver, that may throw (follows va_callVU, va_runU of this kit) ===== -/
section
variable {p : Program} {l : Launch} {e : Env} {R : Room} {s : State} {m : MethodId} {args : Array Value} {below : List Frame} {meth : Method} {c : Code} {H : Heap} {locs : List Loc} {cells slots : Nat}
theorem vx_callVU {T : State} {locs : List Loc} {cells slots : Nat} (X : Stand p l e R s m args below meth c T locs cells slots) (hexec : p.tables.exec = Jvm.exec) {own C owner : String} {index : Nat} {x y : MethodName} {bytes : ByteArray} {maxL : Nat} {ret : Option FieldType}
    (hown : s.vm.findClass own = some m.cls) (hlink : (Cond.methodLink own index x).before args s = true) (hsame : (Cond.sameMethod x.cls owner x.name x.desc).before args s = true)
    (hd0 : va_Decl s ⟨owner, x.name, x.desc⟩) (howner : owner ≠ "java/lang/invoke/MethodHandle" ∧ owner ≠ "java/lang/invoke/VarHandle")
    (hsel : (Cond.selects C x y).before args s = true) (hinst : (Cond.instanceMethod y).before args s = true) (hcode : (Cond.code y bytes maxL ret).before args s = true)
    {W : Nat} {Pre : Pt → Array Value → Prop} {Post : Pt → Array Value → Option Value → Pt → Prop} {PostX : Pt → Array Value → Addr → Pt → Prop} (hK : vx_Back l R p e below s args y 3 W Pre Post PostX)
    {b : Addr} {cellB : Cell} (hcell : T.heap[b]? = some cellB) (hobj : cellB.vm.isStatics = false) (hcls : s.vm.findClass C = some cellB.cls)
    {g : JFrame} (hg : g.method = m) (hsize : g.locals.size = c.maxLocals) {argsL rest : List Value} (hlen : ∀ sig, parseMethodDescriptor x.desc = some sig → argsL.length = sig.parameters.length)
    (hstack : g.stack = argsL.reverse ++ .ref b :: rest) (hW : 2 * g.monitorRoom + (rest.map fun v => v.category).sum ≤ W) (hdg : decode c.code g.pc = .ok (.invokevirtual index, 3))
    (hpre : ∀ vm₁, s.WarmedH vm₁ → Pre ⟨T.setVm vm₁, locs, cells, slots⟩ (Value.ref b :: argsL).toArray) :
    (∃ (v : Option Value) (vm₁ : Vm) (B : Pt), s.WarmedH vm₁ ∧ Stand p l e R s m args below meth c B.U B.locs B.cells B.slots ∧ Post ⟨T.setVm vm₁, locs, cells, slots⟩ (Value.ref b :: argsL).toArray v B ∧
      ∀ target, Steps p.tables e below (B.U.setTop { g with pc := g.pc + 3, stack := v.toList ++ rest }) target → Steps p.tables e below (T.setTop g) target) ∨
    (∃ (q : Addr) (vm₁ : Vm) (B : Pt), s.WarmedH vm₁ ∧ Stand p l e R s m args below meth c B.U B.locs B.cells B.slots ∧ PostX ⟨T.setVm vm₁, locs, cells, slots⟩ (Value.ref b :: argsL).toArray q B ∧
      Steps p.tables e below (T.setTop g) ((B.U.setTop { g with stack := rest }).pushFrame (.throwing q))) := by
  obtain ⟨r0, r, hn, hrm, hstR, hsigR⟩ := hd0
  obtain ⟨cn, ck, r1, hcn, hck, hni, hf, hn1⟩ := Cond.sameMethod_found hsame
  cases hn.symm.trans hn1
  obtain ⟨mk, methM, hnamed, hmethM, -, habM⟩ := Cond.instanceMethod_spec hinst
  obtain ⟨c2, r2, m2, q1, q2, q3, q4, kP, hkP, hkPi⟩ := Cond.selects_spec hsel
  cases hcls.symm.trans q1
  cases hf.symm.trans q2
  cases hnamed.symm.trans q3
  have hselP : selectMethod e.platform s.vm cellB.cls r0 = .method mk := by rw [Launch.admits_selectMethod X.admits]; exact q4
  obtain ⟨vm₁, X₁, hstep₁⟩ := X.invokevirtualUp hexec hown hlink hsame howner hn hrm hstR (a := b) (cell := cellB) hcell
    (fun z h => by rw [h] at hobj; cases hobj) hselP hmethM habM hkP hkPi (g := g) hg (argsL := argsL) (rest := rest) (hlen _ hsigR) hstack hdg
  rcases hK m meth c ⟨T.setVm vm₁, locs, cells, slots⟩ { g with stack := rest } (.invokevirtual index) mk (Value.ref b :: argsL).toArray X₁ hg hsize hdg hW (X₁.named hnamed) (hpre vm₁ X₁.warmed) with ⟨v, B, X', hpost, hsteps⟩ | ⟨q, B, X', hpost, hsteps⟩
  · exact Or.inl ⟨v, vm₁, B, X₁.warmed, X', hpost, fun target h => hstep₁ _ fun acts => by rw [doInvoke_state]; exact hsteps.trans h⟩
  · exact Or.inr ⟨q, vm₁, B, X₁.warmed, X', hpost, hstep₁ _ fun acts => by rw [doInvoke_state]; exact hsteps⟩
theorem vx_runU {x y : MethodName} {bytes cc : ByteArray} {maxL nL mc ms n index : Nat} {ret : Option FieldType} {ws : List Cond} {rm : Room} {Pc : Array Value → State → Prop} {Qc : Array Value → State → Outcome → State → Prop} {XC : String → State → State → Prop} {free : Addr → Prop} {Ts : List Cond} {own C owner : String} {b : Addr} {As rest : List Value} {g : JFrame}
    (S : CallFix p m c cc nL s args Ts own) (hM : vx_Met l y ws rm Pc Qc XC mc ms free) (cw : va_CU R s args own C owner index x y bytes maxL ret ws rm mc ms n) (hp : PreV s H C b Pc As)
    (hg : g.method = m) (hn : As.length = n) (hsize : g.locals.size = nL) (hstack : g.stack = As.reverse ++ .ref b :: rest) (hW : 2 * g.monitorRoom + (rest.map fun v => v.category).sum ≤ 8) (hdg : decode cc g.pc = .ok (.invokevirtual index, 3)) (hf : cells + mc ≤ R.cells ∧ slots + ms ≤ R.slots) :
    vx_Run p l e R s m args below meth c H locs cells slots mc ms g rest (Qc (Value.ref b :: As).toArray) XC free := by
  obtain ⟨hrc, hrs, hfr, hlo, hws, hcw⟩ := cw.back
  have hini := cw.init
  have hK : vx_Back l R p e below s args y 3 8 (PreOf R mc ms Pc) (PostOf Qc mc ms free) (vx_Post XC mc ms free) := vx_back (bytes := bytes) (maxL := maxL) (ret := ret) hM hp.1 hrc hrs hfr hlo hws hcw (fun a' U hW => word_at hW (Or.inl (by first | rfl | simp [Cond.onTables, Cond.keeps, Cond.steady])) hini)
  obtain ⟨hx, hb, hml, ho, -⟩ := S
  obtain ⟨-, ⟨cellB, hcB, hoB, hclB⟩, hPc⟩ := hp
  intro T hT X
  rcases vx_callVU X hx (C := C) (owner := owner) (bytes := bytes) (maxL := maxL) (ret := ret) ho cw.link cw.same cw.decl cw.notMH cw.sel cw.inst cw.code hK (by rw [hT]; exact hcB) hoB hclB hg (hsize.trans hml.symm) (argsL := As) (rest := rest) (fun sig h => hn.trans (cw.len sig h)) hstack hW (by rw [hb]; exact hdg)
    (fun vm₁ hW₁ => ⟨hf.1, hf.2, hPc (T.setVm vm₁) hT hW₁⟩) with ⟨v, vm₁, ⟨U', l2, c2, s2⟩, hW₁, X', ⟨g', mk, t, L, e1, e2, hq, h1, hL, h2, h3⟩, st⟩ | ⟨q, vm₁, ⟨U', l2, c2, s2⟩, hW₁, X', ⟨g', mk, t, L, E, ce, e1, e2, hq, hce, hcv, hcl, h1, hL, h2, h3⟩, st⟩
  · dsimp only [Pt.U, Pt.locs, Pt.cells, Pt.slots] at X' e1 e2 h1 h2 h3 st
    subst h1; subst h2; subst h3
    exact Or.inl ⟨v, (T.setVm vm₁).calling g' mk (Value.ref b :: As).toArray, t, U', L, hT, X', hL, e1, e2, hq, st⟩
  · dsimp only [Pt.U, Pt.locs, Pt.cells, Pt.slots] at X' e1 e2 h1 h2 h3 st hcl
    subst h1; subst h2; subst h3
    exact Or.inr ⟨q, (T.setVm vm₁).calling g' mk (Value.ref b :: As).toArray, t, U', L, E, ce, hT, X', hL, e1, e2, hq, hce, hcv, vx_cls hW₁ hcl, st⟩
end

section HEXC
def castL : List (String × String) := [(RX4, RX9), (RX3, RX9), (RX6, RX9), (RX2, RX9), (RX0, RX9), (RX8, RX9), (RX10, RX9), ("java/lang/IllegalStateException", "java/lang/IllegalStateException"), ("java/lang/IllegalArgumentException", "java/lang/IllegalArgumentException")]
def declL : List MethodName := [Bundle.initS "java/lang/RuntimeException", Bundle.initS "java/lang/Exception", Bundle.initS Bundle.tN]
/-- what a throw needs of the start, and what arrays of references need -/
def ZG (A : Nat → Prop) (U : State) : Prop := (vx_Zq Bundle.tN "UNASSIGNED_STACK" Bundle.steD A U U.heap ∧ vx_Zq Bundle.tN "SUPPRESSED_SENTINEL" Bundle.listD A U U.heap) ∧ ((∃ a, vk_R RX9 9 "a walker fails" a U) ∧ (∃ a, vk_R RX11 288 "no such shelf" a U) ∧ (∃ a, vk_R RX11 295 "no row" a U) ∧ (∃ a, vk_R RX11 298 "no such place" a U)) ∧ (va_AO RX5 U ∧ va_AO RX9 U) ∧ (∀ q ∈ castL, va_Nw (.castable q.1 q.2) U) ∧ (∀ q ∈ declL, va_Nw (.declares q) U) ∧ va_Nc "java/lang/IllegalStateException" "java/lang/IllegalArgumentException" U
theorem ZG.go {A B : Nat → Prop} {s U : State} {H : Heap} {locs : List Loc} (h : ZG A s) (hW : s.WarmedH U.vm) (hS : va_S A s.heap H locs) (hU : U.heap = H) (hAB : ∀ q, B q → A q) : ZG B U := by
  obtain ⟨⟨h1, h2⟩, ⟨⟨a3, h3⟩, ⟨a4, h4⟩, ⟨a5, h5⟩, ⟨a6, h6⟩⟩, ⟨h7, h8⟩, h9, h11, h10⟩ := h
  refine ⟨⟨?_, ?_⟩, ⟨⟨a3, vk_R.warm hW h3⟩, ⟨a4, vk_R.warm hW h4⟩, ⟨a5, vk_R.warm hW h5⟩, ⟨a6, vk_R.warm hW h6⟩⟩, ⟨va_AO.moved hW.alike h7, va_AO.moved hW.alike h8⟩, fun q hq => va_Nw.warmC hW (h9 q hq), fun q hq => va_Nw.warmD hW (h11 q hq), va_Nc.moved hW.alike h10⟩
  · rw [hU]
    exact vx_Zq.narrow (vx_Zq.moved hW.alike (h1.kept hS.2.1)) hAB
  · rw [hU]
    exact vx_Zq.narrow (vx_Zq.moved hW.alike (h2.kept hS.2.1)) hAB
theorem ZG.calling {A : Nat → Prop} {U : State} (h : ZG A U) (g : JFrame) (mk : MethodId) (a : Array Value) : ZG A (U.calling g mk a) := by
  obtain ⟨⟨h1, h2⟩, ⟨⟨a3, h3⟩, ⟨a4, h4⟩, ⟨a5, h5⟩, ⟨a6, h6⟩⟩, ⟨h7, h8⟩, h9, h11, h10⟩ := h
  exact ⟨⟨vx_Zq.moved (u := U) (U := U.calling g mk a) (Vm.Alike.refl U.vm) h1, vx_Zq.moved (u := U) (U := U.calling g mk a) (Vm.Alike.refl U.vm) h2⟩, ⟨⟨a3, vk_R.same (u := U) rfl h3⟩, ⟨a4, vk_R.same (u := U) rfl h4⟩, ⟨a5, vk_R.same (u := U) rfl h5⟩, ⟨a6, vk_R.same (u := U) rfl h6⟩⟩, ⟨va_AO.moved (u := U) (U := U.calling g mk a) (Vm.Alike.refl U.vm) h7, va_AO.moved (u := U) (U := U.calling g mk a) (Vm.Alike.refl U.vm) h8⟩, fun q hq => va_Nw.same rfl (by rfl) (h9 q hq), fun q hq => va_Nw.same rfl (by rfl) (h11 q hq), va_Nc.moved (u := U) (U := U.calling g mk a) (Vm.Alike.refl U.vm) h10⟩
def preZ (γ : GX) (av : List Value) (w0 : va_W) (sz : Nat) : Array Value → State → Prop := va_Pc av (fun U => U.heap.size = sz ∧ va_P γ.1 vwCl w0 U.heap ∧ KG γ U ∧ va_D (fun _ => True) w0 ∧ ZG (va_A w0 sz) U)
theorem preZ.blind (γ : GX) (av : List Value) (w0 : va_W) (sz : Nat) : FrameBlind (preZ γ av w0 sz) := fun a U g mk h => ⟨h.1, h.2.1, h.2.2.1, h.2.2.2.1.calling g mk a, h.2.2.2.2.1, h.2.2.2.2.2.calling g mk a⟩
theorem preZ.at {γ : GX} {av : List Value} {w0 : va_W} {A : Nat → Prop} {s U : State} {H : Heap} {locs : List Loc} (hU : U.heap = H) (hW : s.WarmedH U.vm) (hK : KG γ s) (hP : va_P γ.1 vwCl w0 H) (hD : va_D A w0) (hz : ZG A s) (hS : va_S A s.heap H locs) (hA : ∀ q, s.heap.size ≤ q → A q) : preZ γ av w0 H.size av.toArray U := ⟨rfl, by rw [hU], by rw [hU]; exact hP, hK.warm hW, hD.weaken (fun _ _ _ _ => trivial), hz.go hW hS hU (va_A.le hD hS hA)⟩
def MIz (l : Launch) (γ : GX) (y : MethodName) (ws : List Cond) (rm : Room) (av : List Value) (w0 : va_W) (post : Int → va_W → Prop) (mc ms : Nat) : Prop :=
  ∀ sz, Met l y ws rm (preZ γ av w0 sz) (va_Qi (S := va_W) (fun r w => ∃ a, r = iN a ∧ post a w) (endG γ w0 sz) (va_A w0 sz)) mc ms (va_A w0 sz)
def MVz (l : Launch) (γ : GX) (y : MethodName) (ws : List Cond) (rm : Room) (av : List Value) (w0 : va_W) (post : va_W → Prop) (mc ms : Nat) : Prop :=
  ∀ sz, Met l y ws rm (preZ γ av w0 sz) (va_Qv (S := va_W) (fun w => post w) (endG γ w0 sz) (va_A w0 sz)) mc ms (va_A w0 sz)
/-- where it throws: the class's name, the world behind -/
def XZ (γ : GX) (w0 : va_W) (sz : Nat) (px : String → va_W → Prop) : String → State → State → Prop := vx_X (S := va_W) (fun _ => True) (fun E w t => px E w ∧ endG γ w0 sz w t) (va_A w0 sz)
def MVx (l : Launch) (γ : GX) (y : MethodName) (ws : List Cond) (rm : Room) (av : List Value) (w0 : va_W) (post : va_W → Prop) (px : String → va_W → Prop) (mc ms : Nat) : Prop :=
  ∀ sz, vx_Met l y ws rm (preZ γ av w0 sz) (va_Qv (S := va_W) (fun w => post w) (endG γ w0 sz) (va_A w0 sz)) (XZ γ w0 sz px) mc ms (va_A w0 sz)
def MJx (l : Launch) (γ : GX) (y : MethodName) (ws : List Cond) (rm : Room) (av : List Value) (w0 : va_W) (post : Int → va_W → Prop) (px : String → va_W → Prop) (mc ms : Nat) : Prop :=
  ∀ sz, vx_Met l y ws rm (preZ γ av w0 sz) (va_Ql (S := va_W) (fun r w => ∃ a, r = jN a ∧ post a w) (endG γ w0 sz) (va_A w0 sz)) (XZ γ w0 sz px) mc ms (va_A w0 sz)
/-- this walk may end with a throw -/
def Tx (X : CX) (px : String → va_W → Prop) (mc ms : Nat) : Prop := ∃ Qc w0, X.A = va_A w0 X.s.heap.size ∧ X.Q = vx_MQ X.below Qc (XZ X.γ w0 X.s.heap.size px) X.args X.s mc ms X.A ∧ (∀ x ∈ X.c.exceptionTable.toList, False) ∧ X.meth.locks = false
set_option maxHeartbeats 1000000 in
theorem MVz.of {l : Launch} {γ : GX} {y : MethodName} {ws ws' : List Cond} {rm : Room} {av : List Value} {w0 : va_W} {post : va_W → Prop} {mc ms : Nat} {cc : ByteArray} {maxL : Nat} (own : String) (hcls : y.cls = own) (hy : plainName y.cls = true) (hw : ws = Cond.code y cc maxL none :: ws') (hlen : (lg_sl av).length ≤ maxL)
    (body : ∀ X : CX, Cx X cc maxL own ws rm → X.γ = γ → X.l = l → X.meth.name = y.name → ZG X.A X.s → (∀ (pc : Nat) (L : List (Nat × Value)) (w1 : va_W), decode cc pc = .ok (.return_, 1) → post w1 → Wx X mc ms w1 pc L []) → Wx X 0 0 w0 0 (lv_args 0 av) []) : MVz l γ y ws rm av w0 post mc ms := by
  intro sz
  refine Met.ofW (cc := cc) (maxL := maxL) (ret := none) hy hw ?_
  intro p e s m args below meth c s₁ B hml hv
  obtain ⟨rfl, hsz, hP, hK, hD0, hZ⟩ := hv
  subst hsz
  have hA : ∀ q : Nat, s.heap.size ≤ q → va_A w0 s.heap.size q := fun q h => Or.inr h
  have hts := atoms_spec (ws := ws) B.pre
  have hown : s.vm.findClass own = some m.cls := by rw [← hcls]; exact findClass_of_methodNamed B.named
  have hn := (name_of_methodNamed B.named B.method).1
  have hl := lv_entry av (n := maxL) hlen
  rw [lg_entry_eq]
  refine body (p, l, e, _, s, m, av.toArray, below, meth, c, va_A w0 s.heap.size, _, γ, maxL) ⟨B.exec, B.bytes, hml, rfl, hown, hts, hK, hA, rfl⟩ rfl rfl hn hZ ?_ s.heap [] _ hP (hD0.self) va_S.rf hl
  intro pc L w1 hd hpost H locs ls hP hD hS hl
  exact W.vret B.exec B.bytes B.returns (fun t ht hW => ⟨⟨w1, rfl, hpost, by rw [ht]; exact hP, hD⟩, hS.F ht⟩) hS.2.2 hd B.notSynchronized
set_option maxHeartbeats 1000000 in
theorem MIz.ofW {l : Launch} {γ : GX} {y : MethodName} {ws ws' : List Cond} {rm : Room} {av : List Value} {w0 : va_W} {post : Int → va_W → Prop} {mc ms : Nat} {cc : ByteArray} {maxL : Nat} {rt : FieldType} {hh : List (Nat × Nat × Nat × Nat)} (own : String) (hcls : y.cls = own) (hy : plainName y.cls = true) (hw : ws = Cond.codeWith y cc maxL (some rt) hh :: ws') (hlen : (lg_sl av).length ≤ maxL)
    (body : ∀ X : CX, Cx X cc maxL own ws rm → X.γ = γ → X.l = l → X.meth.name = y.name → ZG X.A X.s → X.c.exceptionTable.toList = tableOf hh → (∀ (pc : Nat) (L : List (Nat × Value)) (a : Int) (w1 : va_W), decode cc pc = .ok (.ireturn, 1) → narrow rt (.int (iN a)) = .int (iN a) → post a w1 → Wx X mc ms w1 pc L [.int (iN a)]) → Wx X 0 0 w0 0 (lv_args 0 av) []) : MIz l γ y ws rm av w0 post mc ms := by
  intro sz
  refine va_MetW (cc := cc) (maxL := maxL) (ret := (some rt)) (hh := hh) hy hw ?_
  intro p e s m args below meth c s₁ B hml hv
  obtain ⟨rfl, hsz, hP, hK, hD0, hZ⟩ := hv
  subst hsz
  have hA : ∀ q : Nat, s.heap.size ≤ q → va_A w0 s.heap.size q := fun q h => Or.inr h
  have hts := atoms_spec (ws := ws) B.pre
  have hown : s.vm.findClass own = some m.cls := by rw [← hcls]; exact findClass_of_methodNamed B.named
  have hn := (name_of_methodNamed B.named B.method).1
  have hl := lv_entry av (n := maxL) hlen
  rw [lg_entry_eq]
  have htab : c.exceptionTable.toList = tableOf hh := vx_table (x := y) B (hts _ (by rw [hw]; exact List.mem_cons_self))
  refine body (p, l, e, _, s, m, av.toArray, below, meth, c, va_A w0 s.heap.size, _, γ, maxL) ⟨B.exec, B.bytes, hml, rfl, hown, hts, hK, hA, rfl⟩ rfl rfl hn hZ htab ?_ s.heap [] _ hP (hD0.self) va_S.rf hl
  intro pc L a w1 hd hnar hpost H locs ls hP hD hS hl
  exact W.zret B.exec B.bytes B.returns hnar (fun t ht hW => ⟨⟨iN a, w1, rfl, ⟨a, rfl, hpost⟩, by rw [ht]; exact hP, hD⟩, hS.F ht⟩) hS.2.2 hd B.notSynchronized
set_option maxHeartbeats 1000000 in
theorem MVx.of {l : Launch} {γ : GX} {y : MethodName} {ws ws' : List Cond} {rm : Room} {av : List Value} {w0 : va_W} {post : va_W → Prop} {px : String → va_W → Prop} {mc ms : Nat} {cc : ByteArray} {maxL : Nat} (own : String) (hcls : y.cls = own) (hy : plainName y.cls = true) (hw : ws = Cond.code y cc maxL none :: ws') (hlen : (lg_sl av).length ≤ maxL)
    (body : ∀ X : CX, Cx X cc maxL own ws rm → X.γ = γ → X.l = l → X.meth.name = y.name → ZG X.A X.s → Tx X px mc ms → (∀ (pc : Nat) (L : List (Nat × Value)) (w1 : va_W), decode cc pc = .ok (.return_, 1) → post w1 → Wx X mc ms w1 pc L []) → Wx X 0 0 w0 0 (lv_args 0 av) []) : MVx l γ y ws rm av w0 post px mc ms := by
  intro sz
  refine vx_ofW (cc := cc) (maxL := maxL) (ret := none) hy hw ?_
  intro p e s m args below meth c s₁ B hml htab hv
  obtain ⟨rfl, hsz, hP, hK, hD0, hZ⟩ := hv
  subst hsz
  have hA : ∀ q : Nat, s.heap.size ≤ q → va_A w0 s.heap.size q := fun q h => Or.inr h
  have hts := atoms_spec (ws := ws) B.pre
  have hown : s.vm.findClass own = some m.cls := by rw [← hcls]; exact findClass_of_methodNamed B.named
  have hn := (name_of_methodNamed B.named B.method).1
  have hl := lv_entry av (n := maxL) hlen
  rw [lg_entry_eq]
  refine body (p, l, e, _, s, m, av.toArray, below, meth, c, va_A w0 s.heap.size, _, γ, maxL) ⟨B.exec, B.bytes, hml, rfl, hown, hts, hK, hA, rfl⟩ rfl rfl hn hZ ⟨_, w0, rfl, rfl, htab, B.notSynchronized⟩ ?_ s.heap [] _ hP (hD0.self) va_S.rf hl
  intro pc L w1 hd hpost H locs ls hP hD hS hl
  exact vx_ret (W.vret B.exec B.bytes B.returns (fun t ht hW => ⟨⟨w1, rfl, hpost, by rw [ht]; exact hP, hD⟩, hS.F ht⟩) hS.2.2 hd B.notSynchronized)
set_option maxHeartbeats 1000000 in
theorem MJx.of {l : Launch} {γ : GX} {y : MethodName} {ws ws' : List Cond} {rm : Room} {av : List Value} {w0 : va_W} {post : Int → va_W → Prop} {px : String → va_W → Prop} {mc ms : Nat} {cc : ByteArray} {maxL : Nat} (own : String) (hcls : y.cls = own) (hy : plainName y.cls = true) (hw : ws = Cond.code y cc maxL (some .long) :: ws') (hlen : (lg_sl av).length ≤ maxL)
    (body : ∀ X : CX, Cx X cc maxL own ws rm → X.γ = γ → X.l = l → X.meth.name = y.name → ZG X.A X.s → Tx X px mc ms → (∀ (pc : Nat) (L : List (Nat × Value)) (a : Int) (w1 : va_W), decode cc pc = .ok (.lreturn, 1) → post a w1 → Wx X mc ms w1 pc L [.long (jN a)]) → Wx X 0 0 w0 0 (lv_args 0 av) []) : MJx l γ y ws rm av w0 post px mc ms := by
  intro sz
  refine vx_ofW (cc := cc) (maxL := maxL) (ret := (some .long)) hy hw ?_
  intro p e s m args below meth c s₁ B hml htab hv
  obtain ⟨rfl, hsz, hP, hK, hD0, hZ⟩ := hv
  subst hsz
  have hA : ∀ q : Nat, s.heap.size ≤ q → va_A w0 s.heap.size q := fun q h => Or.inr h
  have hts := atoms_spec (ws := ws) B.pre
  have hown : s.vm.findClass own = some m.cls := by rw [← hcls]; exact findClass_of_methodNamed B.named
  have hn := (name_of_methodNamed B.named B.method).1
  have hl := lv_entry av (n := maxL) hlen
  rw [lg_entry_eq]
  refine body (p, l, e, _, s, m, av.toArray, below, meth, c, va_A w0 s.heap.size, _, γ, maxL) ⟨B.exec, B.bytes, hml, rfl, hown, hts, hK, hA, rfl⟩ rfl rfl hn hZ ⟨_, w0, rfl, rfl, htab, B.notSynchronized⟩ ?_ s.heap [] _ hP (hD0.self) va_S.rf hl
  intro pc L a w1 hd hpost H locs ls hP hD hS hl
  exact vx_ret (W.lret B.exec B.bytes B.returns (fun t ht hW => ⟨⟨jN a, w1, rfl, ⟨a, rfl, hpost⟩, by rw [ht]; exact hP, hD⟩, hS.F ht⟩) hS.2.2 hd B.notSynchronized)
variable {X : CX} {cc : ByteArray} {nL : Nat} {own : String} {Ts : List Cond} {rm : Room} {k n : Nat} {ws : va_W} {pc : Nat} {L : List (Nat × Value)} {st : List Value}
/-- something thrown over this frame -/
def Wxx (X : CX) (k n : Nat) (ws : va_W) (pc : Nat) (L : List (Nat × Value)) (E : String) : Prop :=
  ∀ (H : Heap) (locs : List Loc) (ls : Array Slot) (rest : List Value) (q : Addr) (ce : Cell), va_P X.γ.1 vwCl ws H → va_D X.A ws → va_S X.A X.s.heap H locs → lv_has ls X.nL L → H[q]? = some ce → ce.vm = .none → X.s.vm.findClass E = some ce.cls →
    vx_W X.p X.l X.e X.R X.s X.m X.args X.below X.meth X.c H locs k n X.Q (F0 X.m pc ls rest) q
theorem x_catch (C : Cx X cc nL own Ts rm) {hh : List (Nat × Nat × Nat × Nat)} (ht : X.c.exceptionTable.toList = tableOf hh) {E name : String} (pre : List ExceptionTableEntry) (x : ExceptionTableEntry) (suf : List ExceptionTableEntry) (hs : tableOf hh = pre ++ x :: suf)
    (hpass : ∀ z ∈ pre, covers z pc = false ∨ (z.catchType ≠ 0 ∧ ∃ nm : String, Cond.classLink own z.catchType nm ∈ Ts ∧ va_Nc E nm X.s)) (hx : covers x pc = true) (h0 : x.catchType ≠ 0) (hlink : Cond.classLink own x.catchType name ∈ Ts) (hcast : va_Nw (.castable E name) X.s) {hp : Nat} (he : x.handlerPc = hp) (kk : ∀ q : Nat, Wx X k n ws hp L [.ref q]) : Wxx X k n ws pc L E := by
  intro H locs ls rest q ce hP hD hS hl hcell hv hcl
  refine vx_catch C.hown pre x suf (ht.trans hs) (fun z hz => ?_) hx h0 (C.hts _ hlink) (hcast.use rfl) hcell hv hcl ?_
  · rcases hpass z hz with h | ⟨h1, nm, h2, h3⟩
    · exact Or.inl h
    · exact Or.inr ⟨h1, nm, C.hts _ h2, h3⟩
  · rw [he]
    exact kk q H locs ls hP hD hS hl
theorem x_throwS (C : Cx X cc nL own Ts rm) {px : String → va_W → Prop} {mc ms : Nat} (hT : Tx X px mc ms) (hfl : X.l.stackTraces = false) (hz : ZG X.A X.s) {cls text : String} {names : List String} {ik is ic : Nat} (hcls : Bundle.fit cls = true) (hnames : ∀ q ∈ names, Bundle.fit q = true) (hk : Cond.classLink own ik cls ∈ Ts) (hini : Cond.initialized cls ∈ Ts) (hstr : ∃ a, vk_R own is text a X.s) (hat : ∀ w ∈ (vx_atS own ic cls names).filter goodWord, w ∈ Ts) (hB : ∀ w ∈ (vx_atS own ic cls names).filter (fun w => !goodWord w), w ∈ Cond.castable cls cls :: declL.map Cond.declares) (hcst : va_Nw (.castable cls cls) X.s) (hgood : ∀ w ∈ Cond.classLink own ik cls :: Cond.initialized cls :: vx_atS own ic cls names, vx_ot w = true)
    (hroom : ((names.length + 4).ble rm.frames && (((st.map fun v : Value => v.category).sum + (13 * (names.length + 1) + 43)).ble rm.locals && ((k + 1).ble rm.cells && ((n + 6).ble rm.slots && ((k + 1).ble mc && (n + 6).ble ms))))) = true) (hp : px cls ws)
    (d0 : decode cc pc = .ok (.new ik, 3)) (d3 : decode cc (pc + 3) = .ok (.dup, 1)) (d4 : decode cc (pc + 4) = .ok (.ldc is, 2)) (d6 : decode cc (pc + 6) = .ok (.invokespecial ic, 3)) (d9 : decode cc (pc + 9) = .ok (.athrow, 1)) : Wx X k n ws pc L st := by
  intro H locs ls hP hD hS hl
  obtain ⟨Qc, w0, hA, hQ, hno, hlk⟩ := hT
  obtain ⟨sa, hstr⟩ := hstr
  have hRR := C.hR
  simp only [Bool.and_eq_true, Nat.ble_eq] at hroom
  obtain ⟨r1, r2, r3, r4, r5, r6⟩ := hroom
  rw [hQ]
  refine vx_throwS C.hx C.hb hfl C.hown hcls hnames (C.hts _ hk) (C.hts _ hini) hstr (vx_hat (fun w hw => C.hts _ (hat w hw)) hB (vx_c (hcst.use rfl) (fun w hw => by obtain ⟨q, h1, rfl⟩ := List.mem_map.mp hw; exact (hz.2.2.2.2.1 q h1).use rfl))) hgood hz.1.1 hz.1.2 hS ((hl.1.trans C.hnL).trans C.hml.symm) d0 d3 d4 d6 d9 (fun x hx => (hno x hx).elim) (by rw [hRR]; omega) (by rw [hRR]; exact r2) (by rw [hRR]; exact r3) (by rw [hRR]; exact r4) hlk (fun t hvm hz1 hk1 => ?_) hS.2.2 r5 r6
  refine ⟨ws, trivial, ⟨hp, hP.kept (fun j q hj => hk1 _ (hP j q hj).lt), by rw [← hA]; exact hD⟩, ?_⟩
  rw [← hA]
  exact ⟨Nat.le_trans hS.1 hz1, fun q h1 h2 => by rw [hk1 q (Nat.lt_of_lt_of_le h1 hS.1)]; exact hS.2.1 q h1 h2⟩
theorem x_throwSW (C : Cx X cc nL own Ts rm) {px : String → va_W → Prop} {mc ms : Nat} (hT : Tx X px mc ms) (hfl : X.l.stackTraces = false) (hz : ZG X.A X.s) {cls text : String} {names : List String} {ik is ic : Nat} (hcls : Bundle.fit cls = true) (hnames : ∀ q ∈ names, Bundle.fit q = true) (hk : Cond.classLink own ik cls ∈ Ts) (hini : Cond.initialized cls ∈ Ts) (hstr : ∃ a, vk_R own is text a X.s) (hat : ∀ w ∈ (vx_atS own ic cls names).filter goodWord, w ∈ Ts) (hB : ∀ w ∈ (vx_atS own ic cls names).filter (fun w => !goodWord w), w ∈ Cond.castable cls cls :: declL.map Cond.declares) (hcst : va_Nw (.castable cls cls) X.s) (hgood : ∀ w ∈ Cond.classLink own ik cls :: Cond.initialized cls :: vx_atS own ic cls names, vx_ot w = true)
    (hroom : ((names.length + 4).ble rm.frames && (((st.map fun v : Value => v.category).sum + (13 * (names.length + 1) + 43)).ble rm.locals && ((k + 1).ble rm.cells && ((n + 6).ble rm.slots && ((k + 1).ble mc && (n + 6).ble ms))))) = true) (hp : px cls ws)
    (d0 : decode cc pc = .ok (.new ik, 3)) (d3 : decode cc (pc + 3) = .ok (.dup, 1)) (d4 : decode cc (pc + 4) = .ok (.ldc_w is, 3)) (d6 : decode cc (pc + 7) = .ok (.invokespecial ic, 3)) (d9 : decode cc (pc + 10) = .ok (.athrow, 1)) : Wx X k n ws pc L st := by
  intro H locs ls hP hD hS hl
  obtain ⟨Qc, w0, hA, hQ, hno, hlk⟩ := hT
  obtain ⟨sa, hstr⟩ := hstr
  have hRR := C.hR
  simp only [Bool.and_eq_true, Nat.ble_eq] at hroom
  obtain ⟨r1, r2, r3, r4, r5, r6⟩ := hroom
  rw [hQ]
  refine vx_throwSW C.hx C.hb hfl C.hown hcls hnames (C.hts _ hk) (C.hts _ hini) hstr (vx_hat (fun w hw => C.hts _ (hat w hw)) hB (vx_c (hcst.use rfl) (fun w hw => by obtain ⟨q, h1, rfl⟩ := List.mem_map.mp hw; exact (hz.2.2.2.2.1 q h1).use rfl))) hgood hz.1.1 hz.1.2 hS ((hl.1.trans C.hnL).trans C.hml.symm) d0 d3 d4 d6 d9 (fun x hx => (hno x hx).elim) (by rw [hRR]; omega) (by rw [hRR]; exact r2) (by rw [hRR]; exact r3) (by rw [hRR]; exact r4) hlk (fun t hvm hz1 hk1 => ?_) hS.2.2 r5 r6
  refine ⟨ws, trivial, ⟨hp, hP.kept (fun j q hj => hk1 _ (hP j q hj).lt), by rw [← hA]; exact hD⟩, ?_⟩
  rw [← hA]
  exact ⟨Nat.le_trans hS.1 hz1, fun q h1 h2 => by rw [hk1 q (Nat.lt_of_lt_of_le h1 hS.1)]; exact hS.2.1 q h1 h2⟩
theorem x_V_Vx (C : Cx X cc nL own Ts rm) (hz : ZG X.A X.s) {y : MethodName} {wsY wsY' : List Cond} {rmY : Room} {bytes : ByteArray} {maxL mc ms index : Nat} {ret : Option FieldType} {As rest st0 : List Value} {post : va_W → Prop} {px : String → va_W → Prop} (nA : Nat) {Cn : String} {T : u_T} {N ci b : Nat} {fs : List Value} (q0 : Nat) (he : ws[q0]? = some (b, ob ci fs)) (hc : vwCl[ci]? = some (Cn, T, N)) (hG : GoodIn Ts (wsV own index Cn y wsY)) (hcls : y.cls = Cn) (hM : MVx X.l X.γ y wsY rmY (.ref b :: As) ws post px mc ms) (hw : wsY = Cond.code y bytes maxL ret :: wsY') (hy : okY y nA) (hR : roomOk rm rmY maxL k n mc ms = true) (hn : As.length = nA) (hst : st0 = As.reverse ++ .ref b :: rest) (hW : (rest.map fun v : Value => v.category).sum.ble 8 = true) (d : decode cc pc = .ok (.invokevirtual index, 3)) (kx : ∀ (E : String) (w1 : va_W), px E w1 → Wxx X (k + mc) (n + ms) w1 pc L E) (kk : ∀ (w1 : va_W), post w1 → Wx X (k + mc) (n + ms) w1 (pc + 3) L rest) : Wx X k n ws pc L st0 := by
  intro H locs ls hP hD hS hl
  obtain ⟨hR1, hR2, hR3, hR4⟩ := roomOk.out hR
  have hRR := C.hR
  subst hst
  refine vx_callv (vx_runV (As := As) (rest := rest) C.fix (hM H.size) (cwV nA C.hts hG hw hR3 hR4 ⟨hcls, hy⟩ (by rw [hRR]; exact hR1)) ⟨preZ.blind _ _ _ _, va_recv C.hK.1 hP hc he, fun U hU hWa => preZ.at hU hWa C.hK hP hD hz hS C.hA⟩ rfl hn (hl.1.trans C.hnL) rfl (lv_room (Nat.le_of_ble_eq_true hW)) d (by rw [hRR]; exact hR2)) hS (fun q _ h => va_A.le hD hS C.hA q h) (va_A.le hD hS C.hA) (fun q _ h => va_A.le hD hS C.hA q h) (fun E ce q9 w1 t H1 locs1 ht hvm _ hB hz1 hk1 hS1 hce hcv hcl => ?_) (fun w1 t H1 locs1 ht hvm hw hB hz1 hk1 hS1 => ?_)
  · obtain ⟨hp, hP1, hD1⟩ := hB
    rw [ht] at hP1
    exact kx E w1 hp H1 locs1 ls rest q9 ce hP1 (hD1.weaken (fun _ q _ h => va_A.le hD hS C.hA q.1 h)) hS1 hl hce hcv hcl
  ·
    obtain ⟨hP1, hD1⟩ := hB
    rw [ht] at hP1
    exact kk w1 hw H1 locs1 ls hP1 (hD1.weaken (fun _ q _ h => va_A.le hD hS C.hA q.1 h)) hS1 hl
theorem x_U_Vx (C : Cx X cc nL own Ts rm) (hz : ZG X.A X.s) {y : MethodName} {wsY wsY' : List Cond} {rmY : Room} {bytes : ByteArray} {maxL mc ms index : Nat} {ret : Option FieldType} {As rest st0 : List Value} {post : va_W → Prop} {px : String → va_W → Prop} (nA : Nat) {Cn : String} {T : u_T} {N ci b : Nat} {fs : List Value} (q0 : Nat) (he : ws[q0]? = some (b, ob ci fs)) (hc : vwCl[ci]? = some (Cn, T, N)) {owner : String} {x : MethodName} (hG : GoodIn Ts (va_wsU own index Cn owner x y wsY)) (hyx : y = ⟨owner, x.name, x.desc⟩) (hx : owner ≠ "java/lang/invoke/MethodHandle" ∧ owner ≠ "java/lang/invoke/VarHandle" ∧ (parseMethodDescriptor x.desc).map (fun d => d.parameters.length) = some nA) (hM : MVx X.l X.γ y wsY rmY (.ref b :: As) ws post px mc ms) (hw : wsY = Cond.code y bytes maxL ret :: wsY') (hy : okY y nA) (hR : roomOk rm rmY maxL k n mc ms = true) (hn : As.length = nA) (hst : st0 = As.reverse ++ .ref b :: rest) (hW : (rest.map fun v : Value => v.category).sum.ble 8 = true) (d : decode cc pc = .ok (.invokevirtual index, 3)) (kx : ∀ (E : String) (w1 : va_W), px E w1 → Wxx X (k + mc) (n + ms) w1 pc L E) (kk : ∀ (w1 : va_W), post w1 → Wx X (k + mc) (n + ms) w1 (pc + 3) L rest) : Wx X k n ws pc L st0 := by
  intro H locs ls hP hD hS hl
  obtain ⟨hR1, hR2, hR3, hR4⟩ := roomOk.out hR
  have hRR := C.hR
  subst hst
  refine vx_callv (vx_runU (As := As) (rest := rest) C.fix (hM H.size) (va_cwU nA C.hts hG hw hR3 hR4 hyx hx (by rw [hRR]; exact hR1)) ⟨preZ.blind _ _ _ _, va_recv C.hK.1 hP hc he, fun U hU hWa => preZ.at hU hWa C.hK hP hD hz hS C.hA⟩ rfl hn (hl.1.trans C.hnL) rfl (lv_room (Nat.le_of_ble_eq_true hW)) d (by rw [hRR]; exact hR2)) hS (fun q _ h => va_A.le hD hS C.hA q h) (va_A.le hD hS C.hA) (fun q _ h => va_A.le hD hS C.hA q h) (fun E ce q9 w1 t H1 locs1 ht hvm _ hB hz1 hk1 hS1 hce hcv hcl => ?_) (fun w1 t H1 locs1 ht hvm hw hB hz1 hk1 hS1 => ?_)
  · obtain ⟨hp, hP1, hD1⟩ := hB
    rw [ht] at hP1
    exact kx E w1 hp H1 locs1 ls rest q9 ce hP1 (hD1.weaken (fun _ q _ h => va_A.le hD hS C.hA q.1 h)) hS1 hl hce hcv hcl
  ·
    obtain ⟨hP1, hD1⟩ := hB
    rw [ht] at hP1
    exact kk w1 hw H1 locs1 ls hP1 (hD1.weaken (fun _ q _ h => va_A.le hD hS C.hA q.1 h)) hS1 hl
theorem x_V_Jx (C : Cx X cc nL own Ts rm) (hz : ZG X.A X.s) {y : MethodName} {wsY wsY' : List Cond} {rmY : Room} {bytes : ByteArray} {maxL mc ms index : Nat} {ret : Option FieldType} {As rest st0 : List Value} {post : Int → va_W → Prop} {px : String → va_W → Prop} (nA : Nat) {Cn : String} {T : u_T} {N ci b : Nat} {fs : List Value} (q0 : Nat) (he : ws[q0]? = some (b, ob ci fs)) (hc : vwCl[ci]? = some (Cn, T, N)) (hG : GoodIn Ts (wsV own index Cn y wsY)) (hcls : y.cls = Cn) (hM : MJx X.l X.γ y wsY rmY (.ref b :: As) ws post px mc ms) (hw : wsY = Cond.code y bytes maxL ret :: wsY') (hy : okY y nA) (hR : roomOk rm rmY maxL k n mc ms = true) (hn : As.length = nA) (hst : st0 = As.reverse ++ .ref b :: rest) (hW : (rest.map fun v : Value => v.category).sum.ble 8 = true) (d : decode cc pc = .ok (.invokevirtual index, 3)) (kx : ∀ (E : String) (w1 : va_W), px E w1 → Wxx X (k + mc) (n + ms) w1 pc L E) (kk : ∀ (a : Int) (w1 : va_W), post a w1 → Wx X (k + mc) (n + ms) w1 (pc + 3) L (.long (jN a) :: rest)) : Wx X k n ws pc L st0 := by
  intro H locs ls hP hD hS hl
  obtain ⟨hR1, hR2, hR3, hR4⟩ := roomOk.out hR
  have hRR := C.hR
  subst hst
  refine vx_calll (vx_runV (As := As) (rest := rest) C.fix (hM H.size) (cwV nA C.hts hG hw hR3 hR4 ⟨hcls, hy⟩ (by rw [hRR]; exact hR1)) ⟨preZ.blind _ _ _ _, va_recv C.hK.1 hP hc he, fun U hU hWa => preZ.at hU hWa C.hK hP hD hz hS C.hA⟩ rfl hn (hl.1.trans C.hnL) rfl (lv_room (Nat.le_of_ble_eq_true hW)) d (by rw [hRR]; exact hR2)) hS (fun q _ h => va_A.le hD hS C.hA q h) (va_A.le hD hS C.hA) (fun q _ h => va_A.le hD hS C.hA q h) (fun E ce q9 w1 t H1 locs1 ht hvm _ hB hz1 hk1 hS1 hce hcv hcl => ?_) (fun r w1 t H1 locs1 ht hvm hw hB hz1 hk1 hS1 => ?_)
  · obtain ⟨hp, hP1, hD1⟩ := hB
    rw [ht] at hP1
    exact kx E w1 hp H1 locs1 ls rest q9 ce hP1 (hD1.weaken (fun _ q _ h => va_A.le hD hS C.hA q.1 h)) hS1 hl hce hcv hcl
  ·
    obtain ⟨a, rfl, hp⟩ := hw
    obtain ⟨hP1, hD1⟩ := hB
    rw [ht] at hP1
    exact kk a w1 hp H1 locs1 ls hP1 (hD1.weaken (fun _ q _ h => va_A.le hD hS C.hA q.1 h)) hS1 hl
/-! .. with a table of their own -/
theorem x_V_Iz (C : Cx X cc nL own Ts rm) (hz : ZG X.A X.s) {y : MethodName} {wsY wsY' : List Cond} {rmY : Room} {bytes : ByteArray} {maxL mc ms index : Nat} {ret : Option FieldType} {As rest st0 : List Value} {hh : List (Nat × Nat × Nat × Nat)} {post : Int → va_W → Prop} (nA : Nat) {Cn : String} {T : u_T} {N ci b : Nat} {fs : List Value} (q0 : Nat) (he : ws[q0]? = some (b, ob ci fs)) (hc : vwCl[ci]? = some (Cn, T, N)) (hG : GoodIn Ts (wsV own index Cn y wsY)) (hcls : y.cls = Cn) (hM : MIz X.l X.γ y wsY rmY (.ref b :: As) ws post mc ms) (hw : wsY = Cond.codeWith y bytes maxL ret hh :: wsY') (hy : okY y nA) (hR : roomOk rm rmY maxL k n mc ms = true) (hn : As.length = nA) (hst : st0 = As.reverse ++ .ref b :: rest) (hW : (rest.map fun v : Value => v.category).sum.ble 8 = true) (d : decode cc pc = .ok (.invokevirtual index, 3)) (kk : ∀ (a : Int) (w1 : va_W), post a w1 → Wx X (k + mc) (n + ms) w1 (pc + 3) L (.int (iN a) :: rest)) : Wx X k n ws pc L st0 := by
  intro H locs ls hP hD hS hl
  obtain ⟨hR1, hR2, hR3, hR4⟩ := roomOk.out hR
  have hRR := C.hR
  subst hst
  refine va_calli (vx_runVW (As := As) (rest := rest) C.fix (hM H.size) (vx_cwVW nA C.hts hG hw hR3 hR4 ⟨hcls, hy⟩ (by rw [hRR]; exact hR1)) ⟨preZ.blind _ _ _ _, va_recv C.hK.1 hP hc he, fun U hU hWa => preZ.at hU hWa C.hK hP hD hz hS C.hA⟩ rfl hn (hl.1.trans C.hnL) rfl (lv_room (Nat.le_of_ble_eq_true hW)) d (by rw [hRR]; exact hR2)) hS (fun q _ h => va_A.le hD hS C.hA q h) (va_A.le hD hS C.hA) (fun r w1 t H1 locs1 ht hvm hw hB hz1 hk1 hS1 => by
    obtain ⟨a, rfl, hp⟩ := hw
    obtain ⟨hP1, hD1⟩ := hB
    rw [ht] at hP1
    exact kk a w1 hp H1 locs1 ls hP1 (hD1.weaken (fun _ q _ h => va_A.le hD hS C.hA q.1 h)) hS1 hl)
theorem x_S_Iz (C : Cx X cc nL own Ts rm) (hz : ZG X.A X.s) {y : MethodName} {wsY wsY' : List Cond} {rmY : Room} {bytes : ByteArray} {maxL mc ms index : Nat} {ret : Option FieldType} {As rest st0 : List Value} {hh : List (Nat × Nat × Nat × Nat)} {post : Int → va_W → Prop} (nA : Nat) (hG : GoodIn Ts (va_wsS own index y wsY)) (hM : MIz X.l X.γ y wsY rmY As ws post mc ms) (hw : wsY = Cond.codeWith y bytes maxL ret hh :: wsY') (hy : okY y nA) (hR : roomOk rm rmY maxL k n mc ms = true) (hn : As.length = nA) (hst : st0 = As.reverse ++ rest) (hW : (rest.map fun v : Value => v.category).sum.ble 8 = true) (d : decode cc pc = .ok (.invokestatic index, 3)) (kk : ∀ (a : Int) (w1 : va_W), post a w1 → Wx X (k + mc) (n + ms) w1 (pc + 3) L (.int (iN a) :: rest)) : Wx X k n ws pc L st0 := by
  intro H locs ls hP hD hS hl
  obtain ⟨hR1, hR2, hR3, hR4⟩ := roomOk.out hR
  have hRR := C.hR
  subst hst
  refine va_calli (vx_runSW (As := As) (rest := rest) C.fix (hM H.size) (vx_cwSW nA C.hts hG hw hR3 hR4 hy (by rw [hRR]; exact hR1)) ⟨preZ.blind _ _ _ _, fun U hU hWa => preZ.at hU hWa C.hK hP hD hz hS C.hA⟩ rfl hn (hl.1.trans C.hnL) rfl (lv_room (Nat.le_of_ble_eq_true hW)) d (by rw [hRR]; exact hR2)) hS (fun q _ h => va_A.le hD hS C.hA q h) (va_A.le hD hS C.hA) (fun r w1 t H1 locs1 ht hvm hw hB hz1 hk1 hS1 => by
    obtain ⟨a, rfl, hp⟩ := hw
    obtain ⟨hP1, hD1⟩ := hB
    rw [ht] at hP1
    exact kk a w1 hp H1 locs1 ls hP1 (hD1.weaken (fun _ q _ h => va_A.le hD hS C.hA q.1 h)) hS1 hl)
theorem x_I_Vz (C : Cx X cc nL own Ts rm) (hz : ZG X.A X.s) {y : MethodName} {wsY wsY' : List Cond} {rmY : Room} {bytes : ByteArray} {maxL mc ms index : Nat} {ret : Option FieldType} {As rest st0 : List Value} {post : va_W → Prop} (nA : Nat) {b : Nat} (hG : GoodIn Ts wsY) (hini : Cond.initialized y.cls ∈ Ts) (hml : Cond.methodLink own index y ∈ Ts) (hin : Cond.instanceMethod y ∈ Ts) (hy1 : y.name = "<init>") (hrn : ret = none) (hM : MVz X.l X.γ y wsY rmY (.ref b :: As) ws post mc ms) (hw : wsY = Cond.code y bytes maxL ret :: wsY') (hy : okY y nA) (hR : roomOk rm rmY maxL k n mc ms = true) (hn : As.length = nA) (hst : st0 = As.reverse ++ .ref b :: rest) (hW : (rest.map fun v : Value => v.category).sum.ble 8 = true) (d : decode cc pc = .ok (.invokespecial index, 3)) (kk : ∀ (w1 : va_W), post w1 → Wx X (k + mc) (n + ms) w1 (pc + 3) L rest) : Wx X k n ws pc L st0 := by
  intro H locs ls hP hD hS hl
  obtain ⟨hR1, hR2, hR3, hR4⟩ := roomOk.out hR
  have hRR := C.hR
  subst hst
  refine va_callv (va_runI (As := As) (rest := rest) C.fix (hM H.size) (cwI nA C.hts hG (by rw [← hrn]; exact hw) hR3 hR4 (C.hts _ hini) (C.hts _ hml) (C.hts _ hin) hy1 hy (by rw [hRR]; exact hR1)) ⟨preZ.blind _ _ _ _, fun U hU hWa => preZ.at hU hWa C.hK hP hD hz hS C.hA⟩ rfl hn (hl.1.trans C.hnL) rfl (lv_room (Nat.le_of_ble_eq_true hW)) d (by rw [hRR]; exact hR2)) hS (fun q _ h => va_A.le hD hS C.hA q h) (va_A.le hD hS C.hA) (fun w1 t H1 locs1 ht hvm hw hB hz1 hk1 hS1 => by
    obtain ⟨hP1, hD1⟩ := hB
    rw [ht] at hP1
    exact kk w1 hw H1 locs1 ls hP1 (hD1.weaken (fun _ q _ h => va_A.le hD hS C.hA q.1 h)) hS1 hl)
theorem x_newzS (C : Cx X cc nL own Ts rm) {n0 : Int} {index : Nat} (N : Nat) (hn : n0 = (N : Int)) (hN : N.ble 100000 = true) (hcl : Cond.classLink own index RX5 ∈ Ts) (harr : va_AO RX5 X.s) (hroom : ((k + 1).ble rm.cells && (n + N).ble rm.slots) = true) (d : decode cc pc = .ok (.anewarray index, 3)) (kk : ∀ q : Nat, Wx X (k + 1) (n + N) (ws ++ [(q, aS X.γ N (fun _ => none))]) (pc + 3) L (.ref q :: st)) : Wx X k n ws pc L (.int (iN n0) :: st) := by
  intro H locs ls hP hD hS hl
  subst hn
  have hRR := C.hR
  simp only [Bool.and_eq_true, Nat.ble_eq] at hroom
  have hN' := Nat.le_of_ble_eq_true hN
  refine va_newq (C := RX5) C.hx C.hb C.hown (C.hts _ hcl) harr C.hK.1 hP hD hS C.hA (N' := N) ?_ ?_ ?_ (by rw [hRR]; exact hroom.1) (by rw [hRR]; exact hroom.2) d (fun q cA H1 hK1 hP1 hD1 hS1 => ?_)
  · intro z
    have z : iN (N : Int) < iN 0 := z
    have := (iN_lt (by omega)).mp z
    omega
  · rw [iN_clamp (by omega)]
    omega
  · omega
  · obtain ⟨_, _, _, _, _, e1⟩ := (hK1.2 4 (cA, .object RX5) rfl).2
    obtain ⟨_, _, _, _, _, e2⟩ := C.hK.ra 2 rfl
    have e : cA = X.γ.2.2.2.1 := Option.some.inj (e1.symm.trans e2)
    subst e
    exact kk q H1 locs ls hP1 hD1 hS1 hl
theorem x_aaszS (C : Cx X cc nL own Ts rm) {N a b ci : Nat} {f : Int → Option Nat} {i : Int} (q0 q1 : Nat) (he : ws[q0]? = some (a, aS X.γ N f)) {vs : List Value} (hv : ws[q1]? = some (b, ob ci vs)) {r : vw_C} (hc : vwCl[ci]? = some r) (hr : r.1 = RX5 ∨ va_Nw (.castable r.1 RX5) X.s) (h : 0 ≤ i ∧ i < (N : Int)) (hn : N.ble 2147483647 = true) (ws' : va_W) (hw : ws.set q0 (a, aS X.γ N (upz f i (some b))) = ws') (d : decode cc pc = .ok (.aastore, 1)) (kk : Wx X k n ws' (pc + 1) L st) : Wx X k n ws pc L (.ref b :: .int (iN i) :: .ref a :: st) := by
  intro H locs ls hP hD hS hl
  have hn' : N ≤ 2147483647 := Nat.le_of_ble_eq_true hn
  rcases hr with hr | hr
  · refine va_astq C.hx C.hb C.hK.1 hP hD hS q0 2 q1 ci (r := r) (cA := X.γ.2.2.2.1) (n := N) (f := fun k : Nat => f (k : Int)) he (by rw [hr]; rfl) hv hc (iN_vin h hn) d (fun H1 locs1 hP hD hS => ?_)
    rw [aS_upd X.γ N f (by omega), hw] at hP hD
    exact kk H1 locs1 ls hP hD hS hl
  · refine va_astqO C.hx C.hb C.hK.1 hP hD hS q0 2 q1 ci (r := r) (E := RX5) (cA := X.γ.2.2.2.1) (n := N) (f := fun k : Nat => f (k : Int)) he rfl hr hv hc (iN_vin h hn) d (fun H1 locs1 hP hD hS => ?_)
    rw [aS_upd X.γ N f (by omega), hw] at hP hD
    exact kk H1 locs1 ls hP hD hS hl
theorem x_newzW (C : Cx X cc nL own Ts rm) {n0 : Int} {index : Nat} (N : Nat) (hn : n0 = (N : Int)) (hN : N.ble 100000 = true) (hcl : Cond.classLink own index RX9 ∈ Ts) (harr : va_AO RX9 X.s) (hroom : ((k + 1).ble rm.cells && (n + N).ble rm.slots) = true) (d : decode cc pc = .ok (.anewarray index, 3)) (kk : ∀ q : Nat, Wx X (k + 1) (n + N) (ws ++ [(q, aW X.γ N (fun _ => none))]) (pc + 3) L (.ref q :: st)) : Wx X k n ws pc L (.int (iN n0) :: st) := by
  intro H locs ls hP hD hS hl
  subst hn
  have hRR := C.hR
  simp only [Bool.and_eq_true, Nat.ble_eq] at hroom
  have hN' := Nat.le_of_ble_eq_true hN
  refine va_newq (C := RX9) C.hx C.hb C.hown (C.hts _ hcl) harr C.hK.1 hP hD hS C.hA (N' := N) ?_ ?_ ?_ (by rw [hRR]; exact hroom.1) (by rw [hRR]; exact hroom.2) d (fun q cA H1 hK1 hP1 hD1 hS1 => ?_)
  · intro z
    have z : iN (N : Int) < iN 0 := z
    have := (iN_lt (by omega)).mp z
    omega
  · rw [iN_clamp (by omega)]
    omega
  · omega
  · obtain ⟨_, _, _, _, _, e1⟩ := (hK1.2 4 (cA, .object RX9) rfl).2
    obtain ⟨_, _, _, _, _, e2⟩ := C.hK.ra 3 rfl
    have e : cA = X.γ.2.2.2.2 := Option.some.inj (e1.symm.trans e2)
    subst e
    exact kk q H1 locs ls hP1 hD1 hS1 hl
theorem x_aaszW (C : Cx X cc nL own Ts rm) {N a b ci : Nat} {f : Int → Option Nat} {i : Int} (q0 q1 : Nat) (he : ws[q0]? = some (a, aW X.γ N f)) {vs : List Value} (hv : ws[q1]? = some (b, ob ci vs)) {r : vw_C} (hc : vwCl[ci]? = some r) (hr : r.1 = RX9 ∨ va_Nw (.castable r.1 RX9) X.s) (h : 0 ≤ i ∧ i < (N : Int)) (hn : N.ble 2147483647 = true) (ws' : va_W) (hw : ws.set q0 (a, aW X.γ N (upz f i (some b))) = ws') (d : decode cc pc = .ok (.aastore, 1)) (kk : Wx X k n ws' (pc + 1) L st) : Wx X k n ws pc L (.ref b :: .int (iN i) :: .ref a :: st) := by
  intro H locs ls hP hD hS hl
  have hn' : N ≤ 2147483647 := Nat.le_of_ble_eq_true hn
  rcases hr with hr | hr
  · refine va_astq C.hx C.hb C.hK.1 hP hD hS q0 3 q1 ci (r := r) (cA := X.γ.2.2.2.2) (n := N) (f := fun k : Nat => f (k : Int)) he (by rw [hr]; rfl) hv hc (iN_vin h hn) d (fun H1 locs1 hP hD hS => ?_)
    rw [aW_upd X.γ N f (by omega), hw] at hP hD
    exact kk H1 locs1 ls hP hD hS hl
  · refine va_astqO C.hx C.hb C.hK.1 hP hD hS q0 3 q1 ci (r := r) (E := RX9) (cA := X.γ.2.2.2.2) (n := N) (f := fun k : Nat => f (k : Int)) he rfl hr hv hc (iN_vin h hn) d (fun H1 locs1 hP hD hS => ?_)
    rw [aW_upd X.γ N f (by omega), hw] at hP hD
    exact kk H1 locs1 ls hP hD hS hl
end HEXC
