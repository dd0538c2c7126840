section HCALLS
/-! ## contracts: from the world w0 the method returns, post says of its answer and of the world behind it -/
def preG (γ : GX) (av : List Value) (w0 : va_W) (sz : Nat) : Array Value → State → Prop := va_Pc av (fun U => U.heap.size = sz ∧ va_P γ.1 vwCl w0 U.heap ∧ KG γ U ∧ va_D (fun _ => True) w0)
def endG (γ : GX) (w0 : va_W) (sz : Nat) : va_W → State → Prop := fun w t => va_P γ.1 vwCl w t.heap ∧ va_D (va_A w0 sz) w
def MI (l : Launch) (γ : GX) (y : MethodName) (ws : List Cond) (rm : Room) (av : List Value) (w0 : va_W) (post : Int → va_W → Prop) (mc ms : Nat) : Prop :=
  ∀ sz, Met l y ws rm (preG γ av w0 sz) (va_Qi (S := va_W) (fun r w => ∃ a, r = iN a ∧ post a w) (endG γ w0 sz) (va_A w0 sz)) mc ms (va_A w0 sz)
def MJ (l : Launch) (γ : GX) (y : MethodName) (ws : List Cond) (rm : Room) (av : List Value) (w0 : va_W) (post : Int → va_W → Prop) (mc ms : Nat) : Prop :=
  ∀ sz, Met l y ws rm (preG γ av w0 sz) (va_Ql (S := va_W) (fun r w => ∃ a, r = jN a ∧ post a w) (endG γ w0 sz) (va_A w0 sz)) mc ms (va_A w0 sz)
def MV (l : Launch) (γ : GX) (y : MethodName) (ws : List Cond) (rm : Room) (av : List Value) (w0 : va_W) (post : va_W → Prop) (mc ms : Nat) : Prop :=
  ∀ sz, Met l y ws rm (preG γ av w0 sz) (va_Qv (S := va_W) (fun w => post w) (endG γ w0 sz) (va_A w0 sz)) mc ms (va_A w0 sz)
theorem preG.blind (γ : GX) (av : List Value) (w0 : va_W) (sz : Nat) : FrameBlind (preG γ av w0 sz) := fun a U g mk h => ⟨h.1, h.2.1, h.2.2.1, h.2.2.2.1.calling g mk a, h.2.2.2.2⟩
theorem preG.at {γ : GX} {av : List Value} {w0 : va_W} {A : Nat → Prop} {s U : State} {H : Heap} (hU : U.heap = H) (hW : s.WarmedH U.vm) (hK : KG γ s) (hP : va_P γ.1 vwCl w0 H) (hD : va_D A w0) : preG γ av w0 H.size av.toArray U := ⟨rfl, by rw [hU], by rw [hU]; exact hP, hK.warm hW, hD.weaken (fun _ _ _ _ => trivial)⟩
theorem va_A.le {A : Nat → Prop} {w : va_W} {H0 H : Heap} {locs : List Loc} (hD : va_D A w) (hS : va_S A H0 H locs) (hA : ∀ q, H0.size ≤ q → A q) : ∀ q, va_A w H.size q → A q := fun q h => by
  rcases h with ⟨k, e, h⟩ | h
  · exact hD.2 k (q, e) h
  · exact hA q (Nat.le_trans hS.1 h)
/-- Met with another start, another end and other free cells -/
theorem Met.conv {l : Launch} {y : MethodName} {ws : List Cond} {rm : Room} {Pc Pc' : Array Value → State → Prop} {Qc Qc' : Array Value → State → Outcome → State → Prop} {mc ms : Nat} {free free' : Addr → Prop} (h : Met l y ws rm Pc Qc mc ms free) (h1 : ∀ a U, Pc' a U → Pc a U) (h2 : ∀ a s o t, Pc' a s → Qc a s o t → Qc' a s o t) (h3 : ∀ q, free q → free' q) : Met l y ws rm Pc' Qc' mc ms free' := by
  intro p e ha hc hk s m args below hf happ hP hKK
  obtain ⟨n, o, i1, i2, i3, q, L, fe, hL⟩ := h p e ha hc hk s m args below hf happ (h1 _ _ hP) hKK
  exact ⟨n, o, i1, i2, i3, h2 _ _ _ _ hP q, L, fe, fun q hq => h3 _ (hL q hq)⟩
/-- the rest of a world beside a callee's -/
theorem frame_join {γ : GX} {w wc wr w1 w' : va_W} {st t : State} (hP : va_P γ.1 vwCl w st.heap) (hD : va_D (fun _ => True) w) (isC isR isB : List Nat) (hC : isC.map (fun i => w[i]?) = wc.map some) (hR : isR.map (fun i => w[i]?) = wr.map some) (hn : va_nd isR = true) (hdis : ∀ i ∈ isR, i ∉ isC) (hB : isB.map (fun i => (wr ++ w1)[i]?) = w'.map some) (hnB : va_nd isB = true)
    (hk : va_F (va_A wc st.heap.size) st t) (hP1 : va_P γ.1 vwCl w1 t.heap) (hD1 : va_D (va_A wc st.heap.size) w1) : va_P γ.1 vwCl w' t.heap ∧ va_D (va_A w st.heap.size) w' := by
  have hF : ∀ q, va_A wc st.heap.size q → va_A w st.heap.size q := fun q h => va_free (hD.self (sz := st.heap.size)) (va_S.rf (H0 := st.heap)) (fun q h => Or.inr h) isC hC q h
  obtain ⟨a, b⟩ := va_join hP (hD.self (sz := st.heap.size)) isC isR hC hR hn hdis hk.2 hF hP1 hD1
  refine ⟨a.sub isB ?_, b.sub isB hnB hB⟩
  have e : isB.filterMap (fun i => (wr ++ w1)[i]?) = (isB.map (fun i => (wr ++ w1)[i]?)).filterMap id := by rw [List.filterMap_map]; rfl
  rw [e, hB, List.filterMap_map]
  exact List.filterMap_some
theorem frame_pre {γ : GX} {av : List Value} {w wc : va_W} {sz : Nat} (isC : List Nat) (hnC : va_nd isC = true) (hC : isC.map (fun i => w[i]?) = wc.map some) (a : Array Value) (U : State) (h : preG γ av w sz a U) : preG γ av wc sz a U := by
  refine ⟨h.1, h.2.1, h.2.2.1.sub isC ?_, h.2.2.2.1, h.2.2.2.2.sub isC hnC hC⟩
  have e : isC.filterMap (fun i => w[i]?) = (isC.map (fun i => w[i]?)).filterMap id := by rw [List.filterMap_map]; rfl
  rw [e, hC, List.filterMap_map]
  exact List.filterMap_some
theorem frame_F {A A' : Nat → Prop} {st t : State} (h : va_F A st t) (hA : ∀ q, A q → A' q) : va_F A' st t := ⟨h.1, fun q h1 h2 => h.2 q h1 (fun z => h2 (hA q z))⟩
theorem MI.frame {l : Launch} {γ : GX} {y : MethodName} {ws : List Cond} {rm : Room} {av : List Value} {wc : va_W} {post : Int → va_W → Prop} {mc ms : Nat} (h : MI l γ y ws rm av wc post mc ms) {w wr : va_W} (isC isR isB : List Nat) (hnC : va_nd isC = true) (hC : isC.map (fun i => w[i]?) = wc.map some) (hR : isR.map (fun i => w[i]?) = wr.map some) (hn : va_nd isR = true) (hdis : ∀ i ∈ isR, i ∉ isC) (hnB : va_nd isB = true) {post' : Int → va_W → Prop} (hp : ∀ a w1, post a w1 → ∃ w', post' a w' ∧ isB.map (fun i => (wr ++ w1)[i]?) = w'.map some) : MI l γ y ws rm av w post' mc ms := by
  intro sz
  refine (h sz).conv (frame_pre isC hnC hC) (fun a s o t hP hQ => ?_) (fun q hq => ?_)
  · obtain ⟨⟨r, w1, e1, ⟨x, e2, hpost⟩, e3, e4⟩, hF⟩ := hQ
    obtain ⟨w', p1, p2⟩ := hp x w1 hpost
    obtain ⟨hP1, hP2, hP3, hP4, hP5⟩ := hP
    subst hP2
    obtain ⟨b1, b2⟩ := frame_join hP3 hP5 isC isR isB hC hR hn hdis p2 hnB hF e3 e4
    exact ⟨⟨r, w', e1, ⟨x, e2, p1⟩, b1, b2⟩, frame_F hF (fun q hq => by
      rcases hq with ⟨k, e, hk⟩ | hq
      · have h1 : (isC.map (fun i => w[i]?))[k]? = some (some (q, e)) := by rw [hC, List.getElem?_map, hk]; rfl
        rw [List.getElem?_map] at h1
        cases hi : isC[k]? with
        | none => rw [hi] at h1; cases h1
        | some i => rw [hi] at h1; exact Or.inl ⟨i, e, Option.some.inj h1⟩
      · exact Or.inr hq)⟩
  · rcases hq with ⟨k, e, hk⟩ | hq
    · have h1 : (isC.map (fun i => w[i]?))[k]? = some (some (q, e)) := by rw [hC, List.getElem?_map, hk]; rfl
      rw [List.getElem?_map] at h1
      cases hi : isC[k]? with
      | none => rw [hi] at h1; cases h1
      | some i => rw [hi] at h1; exact Or.inl ⟨i, e, Option.some.inj h1⟩
    · exact Or.inr hq
theorem MI.post {l : Launch} {γ : GX} {y : MethodName} {ws : List Cond} {rm : Room} {av : List Value} {wc : va_W} {post post' : Int → va_W → Prop} {mc ms : Nat} (h : MI l γ y ws rm av wc post mc ms) (hp : ∀ a w1, post a w1 → post' a w1) : MI l γ y ws rm av wc post' mc ms := by
  intro sz
  refine (h sz).conv (fun _ _ h => h) (fun a s o t hP hQ => ?_) (fun q hq => hq)
  obtain ⟨⟨r, w1, e1, ⟨x, e2, hpost⟩, e3⟩, hF⟩ := hQ
  exact ⟨⟨r, w1, e1, ⟨x, e2, hp x w1 hpost⟩, e3⟩, hF⟩
theorem MJ.frame {l : Launch} {γ : GX} {y : MethodName} {ws : List Cond} {rm : Room} {av : List Value} {wc : va_W} {post : Int → va_W → Prop} {mc ms : Nat} (h : MJ l γ y ws rm av wc post mc ms) {w wr : va_W} (isC isR isB : List Nat) (hnC : va_nd isC = true) (hC : isC.map (fun i => w[i]?) = wc.map some) (hR : isR.map (fun i => w[i]?) = wr.map some) (hn : va_nd isR = true) (hdis : ∀ i ∈ isR, i ∉ isC) (hnB : va_nd isB = true) {post' : Int → va_W → Prop} (hp : ∀ a w1, post a w1 → ∃ w', post' a w' ∧ isB.map (fun i => (wr ++ w1)[i]?) = w'.map some) : MJ l γ y ws rm av w post' mc ms := by
  intro sz
  refine (h sz).conv (frame_pre isC hnC hC) (fun a s o t hP hQ => ?_) (fun q hq => ?_)
  · obtain ⟨⟨r, w1, e1, ⟨x, e2, hpost⟩, e3, e4⟩, hF⟩ := hQ
    obtain ⟨w', p1, p2⟩ := hp x w1 hpost
    obtain ⟨hP1, hP2, hP3, hP4, hP5⟩ := hP
    subst hP2
    obtain ⟨b1, b2⟩ := frame_join hP3 hP5 isC isR isB hC hR hn hdis p2 hnB hF e3 e4
    exact ⟨⟨r, w', e1, ⟨x, e2, p1⟩, b1, b2⟩, frame_F hF (fun q hq => by
      rcases hq with ⟨k, e, hk⟩ | hq
      · have h1 : (isC.map (fun i => w[i]?))[k]? = some (some (q, e)) := by rw [hC, List.getElem?_map, hk]; rfl
        rw [List.getElem?_map] at h1
        cases hi : isC[k]? with
        | none => rw [hi] at h1; cases h1
        | some i => rw [hi] at h1; exact Or.inl ⟨i, e, Option.some.inj h1⟩
      · exact Or.inr hq)⟩
  · rcases hq with ⟨k, e, hk⟩ | hq
    · have h1 : (isC.map (fun i => w[i]?))[k]? = some (some (q, e)) := by rw [hC, List.getElem?_map, hk]; rfl
      rw [List.getElem?_map] at h1
      cases hi : isC[k]? with
      | none => rw [hi] at h1; cases h1
      | some i => rw [hi] at h1; exact Or.inl ⟨i, e, Option.some.inj h1⟩
    · exact Or.inr hq
theorem MJ.post {l : Launch} {γ : GX} {y : MethodName} {ws : List Cond} {rm : Room} {av : List Value} {wc : va_W} {post post' : Int → va_W → Prop} {mc ms : Nat} (h : MJ l γ y ws rm av wc post mc ms) (hp : ∀ a w1, post a w1 → post' a w1) : MJ l γ y ws rm av wc post' mc ms := by
  intro sz
  refine (h sz).conv (fun _ _ h => h) (fun a s o t hP hQ => ?_) (fun q hq => hq)
  obtain ⟨⟨r, w1, e1, ⟨x, e2, hpost⟩, e3⟩, hF⟩ := hQ
  exact ⟨⟨r, w1, e1, ⟨x, e2, hp x w1 hpost⟩, e3⟩, hF⟩
theorem MV.frame {l : Launch} {γ : GX} {y : MethodName} {ws : List Cond} {rm : Room} {av : List Value} {wc : va_W} {post : va_W → Prop} {mc ms : Nat} (h : MV l γ y ws rm av wc post mc ms) {w wr : va_W} (isC isR isB : List Nat) (hnC : va_nd isC = true) (hC : isC.map (fun i => w[i]?) = wc.map some) (hR : isR.map (fun i => w[i]?) = wr.map some) (hn : va_nd isR = true) (hdis : ∀ i ∈ isR, i ∉ isC) (hnB : va_nd isB = true) {post' : va_W → Prop} (hp : ∀ w1, post w1 → ∃ w', post' w' ∧ isB.map (fun i => (wr ++ w1)[i]?) = w'.map some) : MV l γ y ws rm av w post' mc ms := by
  intro sz
  refine (h sz).conv (frame_pre isC hnC hC) (fun a s o t hP hQ => ?_) (fun q hq => ?_)
  · obtain ⟨⟨w1, e1, hpost, e3, e4⟩, hF⟩ := hQ
    obtain ⟨w', p1, p2⟩ := hp w1 hpost
    obtain ⟨hP1, hP2, hP3, hP4, hP5⟩ := hP
    subst hP2
    obtain ⟨b1, b2⟩ := frame_join hP3 hP5 isC isR isB hC hR hn hdis p2 hnB hF e3 e4
    exact ⟨⟨w', e1, p1, b1, b2⟩, frame_F hF (fun q hq => by
      rcases hq with ⟨k, e, hk⟩ | hq
      · have h1 : (isC.map (fun i => w[i]?))[k]? = some (some (q, e)) := by rw [hC, List.getElem?_map, hk]; rfl
        rw [List.getElem?_map] at h1
        cases hi : isC[k]? with
        | none => rw [hi] at h1; cases h1
        | some i => rw [hi] at h1; exact Or.inl ⟨i, e, Option.some.inj h1⟩
      · exact Or.inr hq)⟩
  · rcases hq with ⟨k, e, hk⟩ | hq
    · have h1 : (isC.map (fun i => w[i]?))[k]? = some (some (q, e)) := by rw [hC, List.getElem?_map, hk]; rfl
      rw [List.getElem?_map] at h1
      cases hi : isC[k]? with
      | none => rw [hi] at h1; cases h1
      | some i => rw [hi] at h1; exact Or.inl ⟨i, e, Option.some.inj h1⟩
    · exact Or.inr hq
theorem MV.post {l : Launch} {γ : GX} {y : MethodName} {ws : List Cond} {rm : Room} {av : List Value} {wc : va_W} {post post' : va_W → Prop} {mc ms : Nat} (h : MV l γ y ws rm av wc post mc ms) (hp : ∀ w1, post w1 → post' w1) : MV l γ y ws rm av wc post' mc ms := by
  intro sz
  refine (h sz).conv (fun _ _ h => h) (fun a s o t hP hQ => ?_) (fun q hq => hq)
  obtain ⟨⟨w1, e1, hpost, e3⟩, hF⟩ := hQ
  exact ⟨⟨w1, e1, hp w1 hpost, e3⟩, hF⟩
set_option maxHeartbeats 1000000 in
theorem MI.of {l : Launch} {γ : GX} {y : MethodName} {ws ws' : List Cond} {rm : Room} {av : List Value} {w0 : va_W} {post : Int → va_W → Prop} {mc ms : Nat} {cc : ByteArray} {maxL : Nat} {rt : FieldType} (own : String) (hcls : y.cls = own) (hy : plainName y.cls = true) (hw : ws = Cond.code y cc maxL (some rt) :: ws') (hlen : (lg_sl av).length ≤ maxL)
    (body : ∀ X : CX, Cx X cc maxL own ws rm → X.γ = γ → X.l = l → X.meth.name = y.name → (∀ (pc : Nat) (L : List (Nat × Value)) (a : Int) (w1 : va_W), decode cc pc = .ok (.ireturn, 1) → narrow rt (.int (iN a)) = .int (iN a) → post a w1 → Wx X mc ms w1 pc L [.int (iN a)]) → Wx X 0 0 w0 0 (lv_args 0 av) []) : MI l γ y ws rm av w0 post mc ms := by
  intro sz
  refine Met.ofW (cc := cc) (maxL := maxL) (ret := (some rt)) hy hw ?_
  intro p e s m args below meth c s₁ B hml hv
  obtain ⟨rfl, hsz, hP, hK, hD0⟩ := hv
  subst hsz
  have hA : ∀ q : Nat, s.heap.size ≤ q → va_A w0 s.heap.size q := fun q h => Or.inr h
  have hts := atoms_spec (ws := ws) B.pre
  have hown : s.vm.findClass own = some m.cls := by rw [← hcls]; exact findClass_of_methodNamed B.named
  have hn := (name_of_methodNamed B.named B.method).1
  have hl := lv_entry av (n := maxL) hlen
  rw [lg_entry_eq]
  refine body (p, l, e, _, s, m, av.toArray, below, meth, c, va_A w0 s.heap.size, _, γ, maxL) ⟨B.exec, B.bytes, hml, rfl, hown, hts, hK, hA, rfl⟩ rfl rfl hn ?_ s.heap [] _ hP (hD0.self) va_S.rf hl
  intro pc L a w1 hd hnar hpost H locs ls hP hD hS hl
  exact W.zret B.exec B.bytes B.returns hnar (fun t ht hW => ⟨⟨iN a, w1, rfl, ⟨a, rfl, hpost⟩, by rw [ht]; exact hP, hD⟩, hS.F ht⟩) hS.2.2 hd B.notSynchronized
set_option maxHeartbeats 1000000 in
theorem MJ.of {l : Launch} {γ : GX} {y : MethodName} {ws ws' : List Cond} {rm : Room} {av : List Value} {w0 : va_W} {post : Int → va_W → Prop} {mc ms : Nat} {cc : ByteArray} {maxL : Nat}  (own : String) (hcls : y.cls = own) (hy : plainName y.cls = true) (hw : ws = Cond.code y cc maxL (some .long) :: ws') (hlen : (lg_sl av).length ≤ maxL)
    (body : ∀ X : CX, Cx X cc maxL own ws rm → X.γ = γ → X.l = l → X.meth.name = y.name → (∀ (pc : Nat) (L : List (Nat × Value)) (a : Int) (w1 : va_W), decode cc pc = .ok (.lreturn, 1) → post a w1 → Wx X mc ms w1 pc L [.long (jN a)]) → Wx X 0 0 w0 0 (lv_args 0 av) []) : MJ l γ y ws rm av w0 post mc ms := by
  intro sz
  refine Met.ofW (cc := cc) (maxL := maxL) (ret := (some .long)) hy hw ?_
  intro p e s m args below meth c s₁ B hml hv
  obtain ⟨rfl, hsz, hP, hK, hD0⟩ := hv
  subst hsz
  have hA : ∀ q : Nat, s.heap.size ≤ q → va_A w0 s.heap.size q := fun q h => Or.inr h
  have hts := atoms_spec (ws := ws) B.pre
  have hown : s.vm.findClass own = some m.cls := by rw [← hcls]; exact findClass_of_methodNamed B.named
  have hn := (name_of_methodNamed B.named B.method).1
  have hl := lv_entry av (n := maxL) hlen
  rw [lg_entry_eq]
  refine body (p, l, e, _, s, m, av.toArray, below, meth, c, va_A w0 s.heap.size, _, γ, maxL) ⟨B.exec, B.bytes, hml, rfl, hown, hts, hK, hA, rfl⟩ rfl rfl hn ?_ s.heap [] _ hP (hD0.self) va_S.rf hl
  intro pc L a w1 hd hpost H locs ls hP hD hS hl
  exact W.lret B.exec B.bytes B.returns (fun t ht hW => ⟨⟨jN a, w1, rfl, ⟨a, rfl, hpost⟩, by rw [ht]; exact hP, hD⟩, hS.F ht⟩) hS.2.2 hd B.notSynchronized
set_option maxHeartbeats 1000000 in
theorem MV.of {l : Launch} {γ : GX} {y : MethodName} {ws ws' : List Cond} {rm : Room} {av : List Value} {w0 : va_W} {post : va_W → Prop} {mc ms : Nat} {cc : ByteArray} {maxL : Nat}  (own : String) (hcls : y.cls = own) (hy : plainName y.cls = true) (hw : ws = Cond.code y cc maxL none :: ws') (hlen : (lg_sl av).length ≤ maxL)
    (body : ∀ X : CX, Cx X cc maxL own ws rm → X.γ = γ → X.l = l → X.meth.name = y.name → (∀ (pc : Nat) (L : List (Nat × Value)) (w1 : va_W), decode cc pc = .ok (.return_, 1) → post w1 → Wx X mc ms w1 pc L []) → Wx X 0 0 w0 0 (lv_args 0 av) []) : MV l γ y ws rm av w0 post mc ms := by
  intro sz
  refine Met.ofW (cc := cc) (maxL := maxL) (ret := none) hy hw ?_
  intro p e s m args below meth c s₁ B hml hv
  obtain ⟨rfl, hsz, hP, hK, hD0⟩ := hv
  subst hsz
  have hA : ∀ q : Nat, s.heap.size ≤ q → va_A w0 s.heap.size q := fun q h => Or.inr h
  have hts := atoms_spec (ws := ws) B.pre
  have hown : s.vm.findClass own = some m.cls := by rw [← hcls]; exact findClass_of_methodNamed B.named
  have hn := (name_of_methodNamed B.named B.method).1
  have hl := lv_entry av (n := maxL) hlen
  rw [lg_entry_eq]
  refine body (p, l, e, _, s, m, av.toArray, below, meth, c, va_A w0 s.heap.size, _, γ, maxL) ⟨B.exec, B.bytes, hml, rfl, hown, hts, hK, hA, rfl⟩ rfl rfl hn ?_ s.heap [] _ hP (hD0.self) va_S.rf hl
  intro pc L w1 hd hpost H locs ls hP hD hS hl
  exact W.vret B.exec B.bytes B.returns (fun t ht hW => ⟨⟨w1, rfl, hpost, by rw [ht]; exact hP, hD⟩, hS.F ht⟩) hS.2.2 hd B.notSynchronized
/-! ## calls -/
abbrev okY (y : MethodName) (n : Nat) : Prop := y.cls ≠ "java/lang/invoke/MethodHandle" ∧ y.cls ≠ "java/lang/invoke/VarHandle" ∧ (parseMethodDescriptor y.desc).map (fun d => d.parameters.length) = some n
def roomOk (rm rmY : Room) (maxL k n mc ms : Nat) : Bool := (rmY.frames + 1).ble rm.frames && (8 + (maxL + 11) + rmY.locals).ble rm.locals && (k + mc).ble rm.cells && (n + ms).ble rm.slots && rmY.cells == mc && rmY.slots == ms
theorem roomOk.out {rm rmY : Room} {maxL k n mc ms : Nat} (h : roomOk rm rmY maxL k n mc ms = true) : (rmY.frames + 1 ≤ rm.frames ∧ 8 + (maxL + 11) + rmY.locals ≤ rm.locals) ∧ (k + mc ≤ rm.cells ∧ n + ms ≤ rm.slots) ∧ rmY.cells = mc ∧ rmY.slots = ms := by
  unfold roomOk at h
  simp only [Bool.and_eq_true, beq_iff_eq, Nat.ble_eq] at h
  obtain ⟨⟨⟨⟨⟨h1, h2⟩, h3⟩, h4⟩, h5⟩, h6⟩ := h
  exact ⟨⟨h1, h2⟩, ⟨h3, h4⟩, h5, h6⟩
variable {X : CX} {cc : ByteArray} {nL : Nat} {own : String} {Ts : List Cond} {rm : Room} {k n : Nat} {ws : va_W} {pc : Nat} {L : List (Nat × Value)} {st : List Value}
theorem Cx.fix (C : Cx X cc nL own Ts rm) : CallFix X.p X.m X.c cc nL X.s X.args Ts own := ⟨C.hx, C.hb, C.hml, C.hown, C.hts⟩
theorem x_V_I (C : Cx X cc nL own Ts rm) {y : MethodName} {wsY wsY' : List Cond} {rmY : Room} {bytes : ByteArray} {maxL mc ms index : Nat} {ret : Option FieldType} {As rest st0 : List Value} {post : Int → va_W → Prop} (nA : Nat) {Cn : String} {T : u_T} {N ci b : Nat} {fs : List Value} (q0 : Nat) (he : ws[q0]? = some (b, ob ci fs)) (hc : vwCl[ci]? = some (Cn, T, N)) (hG : GoodIn Ts (wsV own index Cn y wsY)) (hcls : y.cls = Cn) (hM : MI X.l X.γ y wsY rmY (.ref b :: As) ws post mc ms) (hw : wsY = Cond.code y bytes maxL ret :: wsY') (hy : okY y nA) (hR : roomOk rm rmY maxL k n mc ms = true) (hn : As.length = nA) (hst : st0 = As.reverse ++ .ref b :: rest) (hW : (rest.map fun v : Value => v.category).sum.ble 8 = true) (d : decode cc pc = .ok (.invokevirtual index, 3)) (kk : ∀ (a : Int) (w1 : va_W), post a w1 → Wx X (k + mc) (n + ms) w1 (pc + 3) L (.int (iN a) :: rest)) : Wx X k n ws pc L st0 := by
  intro H locs ls hP hD hS hl
  obtain ⟨hR1, hR2, hR3, hR4⟩ := roomOk.out hR
  have hRR := C.hR
  subst hst
  refine va_calli (va_runV (As := As) (rest := rest) C.fix (hM H.size) (cwV nA C.hts hG hw hR3 hR4 ⟨hcls, hy⟩ (by rw [hRR]; exact hR1)) ⟨preG.blind _ _ _ _, va_recv C.hK.1 hP hc he, fun U hU hWa => preG.at hU hWa C.hK hP hD⟩ rfl hn (hl.1.trans C.hnL) rfl (lv_room (Nat.le_of_ble_eq_true hW)) d (by rw [hRR]; exact hR2)) hS (fun q _ h => va_A.le hD hS C.hA q h) (va_A.le hD hS C.hA) (fun r w1 t H1 locs1 ht hvm hw hB hz hk1 hS1 => by
    obtain ⟨a, rfl, hp⟩ := hw
    obtain ⟨hP1, hD1⟩ := hB
    rw [ht] at hP1
    exact kk a w1 hp H1 locs1 ls hP1 (hD1.weaken (fun _ q _ h => va_A.le hD hS C.hA q.1 h)) hS1 hl)
theorem x_S_I (C : Cx X cc nL own Ts rm) {y : MethodName} {wsY wsY' : List Cond} {rmY : Room} {bytes : ByteArray} {maxL mc ms index : Nat} {ret : Option FieldType} {As rest st0 : List Value} {post : Int → va_W → Prop} (nA : Nat) (hG : GoodIn Ts (va_wsS own index y wsY)) (hM : MI X.l X.γ y wsY rmY As ws post mc ms) (hw : wsY = Cond.code y bytes maxL ret :: wsY') (hy : okY y nA) (hR : roomOk rm rmY maxL k n mc ms = true) (hn : As.length = nA) (hst : st0 = As.reverse ++ rest) (hW : (rest.map fun v : Value => v.category).sum.ble 8 = true) (d : decode cc pc = .ok (.invokestatic index, 3)) (kk : ∀ (a : Int) (w1 : va_W), post a w1 → Wx X (k + mc) (n + ms) w1 (pc + 3) L (.int (iN a) :: rest)) : Wx X k n ws pc L st0 := by
  intro H locs ls hP hD hS hl
  obtain ⟨hR1, hR2, hR3, hR4⟩ := roomOk.out hR
  have hRR := C.hR
  subst hst
  refine va_calli (va_runS (As := As) (rest := rest) C.fix (hM H.size) (va_cwS nA C.hts hG hw hR3 hR4 hy (by rw [hRR]; exact hR1)) ⟨preG.blind _ _ _ _, fun U hU hWa => preG.at hU hWa C.hK hP hD⟩ rfl hn (hl.1.trans C.hnL) rfl (lv_room (Nat.le_of_ble_eq_true hW)) d (by rw [hRR]; exact hR2)) hS (fun q _ h => va_A.le hD hS C.hA q h) (va_A.le hD hS C.hA) (fun r w1 t H1 locs1 ht hvm hw hB hz hk1 hS1 => by
    obtain ⟨a, rfl, hp⟩ := hw
    obtain ⟨hP1, hD1⟩ := hB
    rw [ht] at hP1
    exact kk a w1 hp H1 locs1 ls hP1 (hD1.weaken (fun _ q _ h => va_A.le hD hS C.hA q.1 h)) hS1 hl)
theorem x_N_I (C : Cx X cc nL own Ts rm) {y : MethodName} {wsY wsY' : List Cond} {rmY : Room} {bytes : ByteArray} {maxL mc ms index : Nat} {ret : Option FieldType} {As rest st0 : List Value} {post : Int → va_W → Prop} (nA : Nat) {host : String} (hG : GoodIn Ts wsY) (hnest : (own, index, y, host) ∈ nestL) (hini : Cond.initialized y.cls ∈ Ts) (hsta : Cond.static y ∈ Ts) (hM : MI X.l X.γ y wsY rmY As ws post mc ms) (hw : wsY = Cond.code y bytes maxL ret :: wsY') (hy : okY y nA) (hR : roomOk rm rmY maxL k n mc ms = true) (hn : As.length = nA) (hst : st0 = As.reverse ++ rest) (hW : (rest.map fun v : Value => v.category).sum.ble 8 = true) (d : decode cc pc = .ok (.invokestatic index, 3)) (kk : ∀ (a : Int) (w1 : va_W), post a w1 → Wx X (k + mc) (n + ms) w1 (pc + 3) L (.int (iN a) :: rest)) : Wx X k n ws pc L st0 := by
  intro H locs ls hP hD hS hl
  obtain ⟨hR1, hR2, hR3, hR4⟩ := roomOk.out hR
  have hRR := C.hR
  subst hst
  refine va_calli (va_runSN (As := As) (rest := rest) C.fix (hM H.size) ⟨va_cnB nA C.hts hG hw hR3 hR4 (C.hK.2.1 _ hnest) (C.hts _ hini) hy (by rw [hRR]; exact hR1), C.hts _ hsta, trivial⟩ ⟨preG.blind _ _ _ _, fun U hU hWa => preG.at hU hWa C.hK hP hD⟩ rfl hn (hl.1.trans C.hnL) rfl (lv_room (Nat.le_of_ble_eq_true hW)) d (by rw [hRR]; exact hR2)) hS (fun q _ h => va_A.le hD hS C.hA q h) (va_A.le hD hS C.hA) (fun r w1 t H1 locs1 ht hvm hw hB hz hk1 hS1 => by
    obtain ⟨a, rfl, hp⟩ := hw
    obtain ⟨hP1, hD1⟩ := hB
    rw [ht] at hP1
    exact kk a w1 hp H1 locs1 ls hP1 (hD1.weaken (fun _ q _ h => va_A.le hD hS C.hA q.1 h)) hS1 hl)
theorem x_U_I (C : Cx X cc nL own Ts rm) {y : MethodName} {wsY wsY' : List Cond} {rmY : Room} {bytes : ByteArray} {maxL mc ms index : Nat} {ret : Option FieldType} {As rest st0 : List Value} {post : Int → va_W → Prop} (nA : Nat) {Cn : String} {T : u_T} {N ci b : Nat} {fs : List Value} (q0 : Nat) (he : ws[q0]? = some (b, ob ci fs)) (hc : vwCl[ci]? = some (Cn, T, N)) {owner : String} {x : MethodName} (hG : GoodIn Ts (va_wsU own index Cn owner x y wsY)) (hyx : y = ⟨owner, x.name, x.desc⟩) (hx : owner ≠ "java/lang/invoke/MethodHandle" ∧ owner ≠ "java/lang/invoke/VarHandle" ∧ (parseMethodDescriptor x.desc).map (fun d => d.parameters.length) = some nA) (hM : MI X.l X.γ y wsY rmY (.ref b :: As) ws post mc ms) (hw : wsY = Cond.code y bytes maxL ret :: wsY') (hy : okY y nA) (hR : roomOk rm rmY maxL k n mc ms = true) (hn : As.length = nA) (hst : st0 = As.reverse ++ .ref b :: rest) (hW : (rest.map fun v : Value => v.category).sum.ble 8 = true) (d : decode cc pc = .ok (.invokevirtual index, 3)) (kk : ∀ (a : Int) (w1 : va_W), post a w1 → Wx X (k + mc) (n + ms) w1 (pc + 3) L (.int (iN a) :: rest)) : Wx X k n ws pc L st0 := by
  intro H locs ls hP hD hS hl
  obtain ⟨hR1, hR2, hR3, hR4⟩ := roomOk.out hR
  have hRR := C.hR
  subst hst
  refine va_calli (va_runU (As := As) (rest := rest) C.fix (hM H.size) (va_cwU nA C.hts hG hw hR3 hR4 hyx hx (by rw [hRR]; exact hR1)) ⟨preG.blind _ _ _ _, va_recv C.hK.1 hP hc he, fun U hU hWa => preG.at hU hWa C.hK hP hD⟩ rfl hn (hl.1.trans C.hnL) rfl (lv_room (Nat.le_of_ble_eq_true hW)) d (by rw [hRR]; exact hR2)) hS (fun q _ h => va_A.le hD hS C.hA q h) (va_A.le hD hS C.hA) (fun r w1 t H1 locs1 ht hvm hw hB hz hk1 hS1 => by
    obtain ⟨a, rfl, hp⟩ := hw
    obtain ⟨hP1, hD1⟩ := hB
    rw [ht] at hP1
    exact kk a w1 hp H1 locs1 ls hP1 (hD1.weaken (fun _ q _ h => va_A.le hD hS C.hA q.1 h)) hS1 hl)
theorem x_O_I (C : Cx X cc nL own Ts rm) {y : MethodName} {wsY wsY' : List Cond} {rmY : Room} {bytes : ByteArray} {maxL mc ms index : Nat} {ret : Option FieldType} {As rest st0 : List Value} {post : Int → va_W → Prop} (nA : Nat) {Cn : String} {T : u_T} {N ci b : Nat} {fs : List Value} (q0 : Nat) (he : ws[q0]? = some (b, ob ci fs)) (hc : vwCl[ci]? = some (Cn, T, N)) {owner : String} {x : MethodName} (hG : GoodIn Ts (va_wsO own index Cn owner x y wsY)) {b0 : ByteArray} {m0 : Nat} {r0 : Option FieldType} (h0 : Cond.code ⟨owner, x.name, x.desc⟩ b0 m0 r0 ∈ Ts) (hx : owner ≠ "java/lang/invoke/MethodHandle" ∧ owner ≠ "java/lang/invoke/VarHandle" ∧ (parseMethodDescriptor x.desc).map (fun d => d.parameters.length) = some nA) (hM : MI X.l X.γ y wsY rmY (.ref b :: As) ws post mc ms) (hw : wsY = Cond.code y bytes maxL ret :: wsY') (hy : okY y nA) (hR : roomOk rm rmY maxL k n mc ms = true) (hn : As.length = nA) (hst : st0 = As.reverse ++ .ref b :: rest) (hW : (rest.map fun v : Value => v.category).sum.ble 8 = true) (d : decode cc pc = .ok (.invokevirtual index, 3)) (kk : ∀ (a : Int) (w1 : va_W), post a w1 → Wx X (k + mc) (n + ms) w1 (pc + 3) L (.int (iN a) :: rest)) : Wx X k n ws pc L st0 := by
  intro H locs ls hP hD hS hl
  obtain ⟨hR1, hR2, hR3, hR4⟩ := roomOk.out hR
  have hRR := C.hR
  subst hst
  refine va_calli (va_runU (As := As) (rest := rest) C.fix (hM H.size) (va_cwO nA C.hts hG hw hR3 hR4 h0 hx (by rw [hRR]; exact hR1)) ⟨preG.blind _ _ _ _, va_recv C.hK.1 hP hc he, fun U hU hWa => preG.at hU hWa C.hK hP hD⟩ rfl hn (hl.1.trans C.hnL) rfl (lv_room (Nat.le_of_ble_eq_true hW)) d (by rw [hRR]; exact hR2)) hS (fun q _ h => va_A.le hD hS C.hA q h) (va_A.le hD hS C.hA) (fun r w1 t H1 locs1 ht hvm hw hB hz hk1 hS1 => by
    obtain ⟨a, rfl, hp⟩ := hw
    obtain ⟨hP1, hD1⟩ := hB
    rw [ht] at hP1
    exact kk a w1 hp H1 locs1 ls hP1 (hD1.weaken (fun _ q _ h => va_A.le hD hS C.hA q.1 h)) hS1 hl)
theorem x_P_I (C : Cx X cc nL own Ts rm) {y : MethodName} {wsY wsY' : List Cond} {rmY : Room} {bytes : ByteArray} {maxL mc ms index : Nat} {ret : Option FieldType} {As rest st0 : List Value} {post : Int → va_W → Prop} (nA : Nat) {Cn : String} {T : u_T} {N ci b : Nat} {fs : List Value} (q0 : Nat) (he : ws[q0]? = some (b, ob ci fs)) (hc : vwCl[ci]? = some (Cn, T, N)) (hG : GoodIn Ts (va_wsSU own index y wsY)) (hno : y.name ≠ "<init>" ∧ (parseMethodDescriptor y.desc).map (fun d => d.parameters.length) = some nA) (hM : MI X.l X.γ y wsY rmY (.ref b :: As) ws post mc ms) (hw : wsY = Cond.code y bytes maxL ret :: wsY') (hy : okY y nA) (hR : roomOk rm rmY maxL k n mc ms = true) (hn : As.length = nA) (hst : st0 = As.reverse ++ .ref b :: rest) (hW : (rest.map fun v : Value => v.category).sum.ble 8 = true) (d : decode cc pc = .ok (.invokespecial index, 3)) (kk : ∀ (a : Int) (w1 : va_W), post a w1 → Wx X (k + mc) (n + ms) w1 (pc + 3) L (.int (iN a) :: rest)) : Wx X k n ws pc L st0 := by
  intro H locs ls hP hD hS hl
  obtain ⟨hR1, hR2, hR3, hR4⟩ := roomOk.out hR
  have hRR := C.hR
  subst hst
  refine va_calli (va_runSU (As := As) (rest := rest) (C.hK.1.1 ci _ hc).2 C.fix (hM H.size) (va_cwSU nA C.hts hG hw hR3 hR4 hno (by rw [hRR]; exact hR1)) ⟨preG.blind _ _ _ _, va_recv C.hK.1 hP hc he, fun U hU hWa => preG.at hU hWa C.hK hP hD⟩ rfl hn (hl.1.trans C.hnL) rfl (lv_room (Nat.le_of_ble_eq_true hW)) d (by rw [hRR]; exact hR2)) hS (fun q _ h => va_A.le hD hS C.hA q h) (va_A.le hD hS C.hA) (fun r w1 t H1 locs1 ht hvm hw hB hz hk1 hS1 => by
    obtain ⟨a, rfl, hp⟩ := hw
    obtain ⟨hP1, hD1⟩ := hB
    rw [ht] at hP1
    exact kk a w1 hp H1 locs1 ls hP1 (hD1.weaken (fun _ q _ h => va_A.le hD hS C.hA q.1 h)) hS1 hl)
theorem x_V_J (C : Cx X cc nL own Ts rm) {y : MethodName} {wsY wsY' : List Cond} {rmY : Room} {bytes : ByteArray} {maxL mc ms index : Nat} {ret : Option FieldType} {As rest st0 : List Value} {post : Int → va_W → Prop} (nA : Nat) {Cn : String} {T : u_T} {N ci b : Nat} {fs : List Value} (q0 : Nat) (he : ws[q0]? = some (b, ob ci fs)) (hc : vwCl[ci]? = some (Cn, T, N)) (hG : GoodIn Ts (wsV own index Cn y wsY)) (hcls : y.cls = Cn) (hM : MJ X.l X.γ y wsY rmY (.ref b :: As) ws post mc ms) (hw : wsY = Cond.code y bytes maxL ret :: wsY') (hy : okY y nA) (hR : roomOk rm rmY maxL k n mc ms = true) (hn : As.length = nA) (hst : st0 = As.reverse ++ .ref b :: rest) (hW : (rest.map fun v : Value => v.category).sum.ble 8 = true) (d : decode cc pc = .ok (.invokevirtual index, 3)) (kk : ∀ (a : Int) (w1 : va_W), post a w1 → Wx X (k + mc) (n + ms) w1 (pc + 3) L (.long (jN a) :: rest)) : Wx X k n ws pc L st0 := by
  intro H locs ls hP hD hS hl
  obtain ⟨hR1, hR2, hR3, hR4⟩ := roomOk.out hR
  have hRR := C.hR
  subst hst
  refine va_calll (va_runV (As := As) (rest := rest) C.fix (hM H.size) (cwV nA C.hts hG hw hR3 hR4 ⟨hcls, hy⟩ (by rw [hRR]; exact hR1)) ⟨preG.blind _ _ _ _, va_recv C.hK.1 hP hc he, fun U hU hWa => preG.at hU hWa C.hK hP hD⟩ rfl hn (hl.1.trans C.hnL) rfl (lv_room (Nat.le_of_ble_eq_true hW)) d (by rw [hRR]; exact hR2)) hS (fun q _ h => va_A.le hD hS C.hA q h) (va_A.le hD hS C.hA) (fun r w1 t H1 locs1 ht hvm hw hB hz hk1 hS1 => by
    obtain ⟨a, rfl, hp⟩ := hw
    obtain ⟨hP1, hD1⟩ := hB
    rw [ht] at hP1
    exact kk a w1 hp H1 locs1 ls hP1 (hD1.weaken (fun _ q _ h => va_A.le hD hS C.hA q.1 h)) hS1 hl)
theorem x_S_J (C : Cx X cc nL own Ts rm) {y : MethodName} {wsY wsY' : List Cond} {rmY : Room} {bytes : ByteArray} {maxL mc ms index : Nat} {ret : Option FieldType} {As rest st0 : List Value} {post : Int → va_W → Prop} (nA : Nat) (hG : GoodIn Ts (va_wsS own index y wsY)) (hM : MJ X.l X.γ y wsY rmY As ws post mc ms) (hw : wsY = Cond.code y bytes maxL ret :: wsY') (hy : okY y nA) (hR : roomOk rm rmY maxL k n mc ms = true) (hn : As.length = nA) (hst : st0 = As.reverse ++ rest) (hW : (rest.map fun v : Value => v.category).sum.ble 8 = true) (d : decode cc pc = .ok (.invokestatic index, 3)) (kk : ∀ (a : Int) (w1 : va_W), post a w1 → Wx X (k + mc) (n + ms) w1 (pc + 3) L (.long (jN a) :: rest)) : Wx X k n ws pc L st0 := by
  intro H locs ls hP hD hS hl
  obtain ⟨hR1, hR2, hR3, hR4⟩ := roomOk.out hR
  have hRR := C.hR
  subst hst
  refine va_calll (va_runS (As := As) (rest := rest) C.fix (hM H.size) (va_cwS nA C.hts hG hw hR3 hR4 hy (by rw [hRR]; exact hR1)) ⟨preG.blind _ _ _ _, fun U hU hWa => preG.at hU hWa C.hK hP hD⟩ rfl hn (hl.1.trans C.hnL) rfl (lv_room (Nat.le_of_ble_eq_true hW)) d (by rw [hRR]; exact hR2)) hS (fun q _ h => va_A.le hD hS C.hA q h) (va_A.le hD hS C.hA) (fun r w1 t H1 locs1 ht hvm hw hB hz hk1 hS1 => by
    obtain ⟨a, rfl, hp⟩ := hw
    obtain ⟨hP1, hD1⟩ := hB
    rw [ht] at hP1
    exact kk a w1 hp H1 locs1 ls hP1 (hD1.weaken (fun _ q _ h => va_A.le hD hS C.hA q.1 h)) hS1 hl)
theorem x_N_J (C : Cx X cc nL own Ts rm) {y : MethodName} {wsY wsY' : List Cond} {rmY : Room} {bytes : ByteArray} {maxL mc ms index : Nat} {ret : Option FieldType} {As rest st0 : List Value} {post : Int → va_W → Prop} (nA : Nat) {host : String} (hG : GoodIn Ts wsY) (hnest : (own, index, y, host) ∈ nestL) (hini : Cond.initialized y.cls ∈ Ts) (hsta : Cond.static y ∈ Ts) (hM : MJ X.l X.γ y wsY rmY As ws post mc ms) (hw : wsY = Cond.code y bytes maxL ret :: wsY') (hy : okY y nA) (hR : roomOk rm rmY maxL k n mc ms = true) (hn : As.length = nA) (hst : st0 = As.reverse ++ rest) (hW : (rest.map fun v : Value => v.category).sum.ble 8 = true) (d : decode cc pc = .ok (.invokestatic index, 3)) (kk : ∀ (a : Int) (w1 : va_W), post a w1 → Wx X (k + mc) (n + ms) w1 (pc + 3) L (.long (jN a) :: rest)) : Wx X k n ws pc L st0 := by
  intro H locs ls hP hD hS hl
  obtain ⟨hR1, hR2, hR3, hR4⟩ := roomOk.out hR
  have hRR := C.hR
  subst hst
  refine va_calll (va_runSN (As := As) (rest := rest) C.fix (hM H.size) ⟨va_cnB nA C.hts hG hw hR3 hR4 (C.hK.2.1 _ hnest) (C.hts _ hini) hy (by rw [hRR]; exact hR1), C.hts _ hsta, trivial⟩ ⟨preG.blind _ _ _ _, fun U hU hWa => preG.at hU hWa C.hK hP hD⟩ rfl hn (hl.1.trans C.hnL) rfl (lv_room (Nat.le_of_ble_eq_true hW)) d (by rw [hRR]; exact hR2)) hS (fun q _ h => va_A.le hD hS C.hA q h) (va_A.le hD hS C.hA) (fun r w1 t H1 locs1 ht hvm hw hB hz hk1 hS1 => by
    obtain ⟨a, rfl, hp⟩ := hw
    obtain ⟨hP1, hD1⟩ := hB
    rw [ht] at hP1
    exact kk a w1 hp H1 locs1 ls hP1 (hD1.weaken (fun _ q _ h => va_A.le hD hS C.hA q.1 h)) hS1 hl)
theorem x_U_J (C : Cx X cc nL own Ts rm) {y : MethodName} {wsY wsY' : List Cond} {rmY : Room} {bytes : ByteArray} {maxL mc ms index : Nat} {ret : Option FieldType} {As rest st0 : List Value} {post : Int → va_W → Prop} (nA : Nat) {Cn : String} {T : u_T} {N ci b : Nat} {fs : List Value} (q0 : Nat) (he : ws[q0]? = some (b, ob ci fs)) (hc : vwCl[ci]? = some (Cn, T, N)) {owner : String} {x : MethodName} (hG : GoodIn Ts (va_wsU own index Cn owner x y wsY)) (hyx : y = ⟨owner, x.name, x.desc⟩) (hx : owner ≠ "java/lang/invoke/MethodHandle" ∧ owner ≠ "java/lang/invoke/VarHandle" ∧ (parseMethodDescriptor x.desc).map (fun d => d.parameters.length) = some nA) (hM : MJ X.l X.γ y wsY rmY (.ref b :: As) ws post mc ms) (hw : wsY = Cond.code y bytes maxL ret :: wsY') (hy : okY y nA) (hR : roomOk rm rmY maxL k n mc ms = true) (hn : As.length = nA) (hst : st0 = As.reverse ++ .ref b :: rest) (hW : (rest.map fun v : Value => v.category).sum.ble 8 = true) (d : decode cc pc = .ok (.invokevirtual index, 3)) (kk : ∀ (a : Int) (w1 : va_W), post a w1 → Wx X (k + mc) (n + ms) w1 (pc + 3) L (.long (jN a) :: rest)) : Wx X k n ws pc L st0 := by
  intro H locs ls hP hD hS hl
  obtain ⟨hR1, hR2, hR3, hR4⟩ := roomOk.out hR
  have hRR := C.hR
  subst hst
  refine va_calll (va_runU (As := As) (rest := rest) C.fix (hM H.size) (va_cwU nA C.hts hG hw hR3 hR4 hyx hx (by rw [hRR]; exact hR1)) ⟨preG.blind _ _ _ _, va_recv C.hK.1 hP hc he, fun U hU hWa => preG.at hU hWa C.hK hP hD⟩ rfl hn (hl.1.trans C.hnL) rfl (lv_room (Nat.le_of_ble_eq_true hW)) d (by rw [hRR]; exact hR2)) hS (fun q _ h => va_A.le hD hS C.hA q h) (va_A.le hD hS C.hA) (fun r w1 t H1 locs1 ht hvm hw hB hz hk1 hS1 => by
    obtain ⟨a, rfl, hp⟩ := hw
    obtain ⟨hP1, hD1⟩ := hB
    rw [ht] at hP1
    exact kk a w1 hp H1 locs1 ls hP1 (hD1.weaken (fun _ q _ h => va_A.le hD hS C.hA q.1 h)) hS1 hl)
theorem x_O_J (C : Cx X cc nL own Ts rm) {y : MethodName} {wsY wsY' : List Cond} {rmY : Room} {bytes : ByteArray} {maxL mc ms index : Nat} {ret : Option FieldType} {As rest st0 : List Value} {post : Int → va_W → Prop} (nA : Nat) {Cn : String} {T : u_T} {N ci b : Nat} {fs : List Value} (q0 : Nat) (he : ws[q0]? = some (b, ob ci fs)) (hc : vwCl[ci]? = some (Cn, T, N)) {owner : String} {x : MethodName} (hG : GoodIn Ts (va_wsO own index Cn owner x y wsY)) {b0 : ByteArray} {m0 : Nat} {r0 : Option FieldType} (h0 : Cond.code ⟨owner, x.name, x.desc⟩ b0 m0 r0 ∈ Ts) (hx : owner ≠ "java/lang/invoke/MethodHandle" ∧ owner ≠ "java/lang/invoke/VarHandle" ∧ (parseMethodDescriptor x.desc).map (fun d => d.parameters.length) = some nA) (hM : MJ X.l X.γ y wsY rmY (.ref b :: As) ws post mc ms) (hw : wsY = Cond.code y bytes maxL ret :: wsY') (hy : okY y nA) (hR : roomOk rm rmY maxL k n mc ms = true) (hn : As.length = nA) (hst : st0 = As.reverse ++ .ref b :: rest) (hW : (rest.map fun v : Value => v.category).sum.ble 8 = true) (d : decode cc pc = .ok (.invokevirtual index, 3)) (kk : ∀ (a : Int) (w1 : va_W), post a w1 → Wx X (k + mc) (n + ms) w1 (pc + 3) L (.long (jN a) :: rest)) : Wx X k n ws pc L st0 := by
  intro H locs ls hP hD hS hl
  obtain ⟨hR1, hR2, hR3, hR4⟩ := roomOk.out hR
  have hRR := C.hR
  subst hst
  refine va_calll (va_runU (As := As) (rest := rest) C.fix (hM H.size) (va_cwO nA C.hts hG hw hR3 hR4 h0 hx (by rw [hRR]; exact hR1)) ⟨preG.blind _ _ _ _, va_recv C.hK.1 hP hc he, fun U hU hWa => preG.at hU hWa C.hK hP hD⟩ rfl hn (hl.1.trans C.hnL) rfl (lv_room (Nat.le_of_ble_eq_true hW)) d (by rw [hRR]; exact hR2)) hS (fun q _ h => va_A.le hD hS C.hA q h) (va_A.le hD hS C.hA) (fun r w1 t H1 locs1 ht hvm hw hB hz hk1 hS1 => by
    obtain ⟨a, rfl, hp⟩ := hw
    obtain ⟨hP1, hD1⟩ := hB
    rw [ht] at hP1
    exact kk a w1 hp H1 locs1 ls hP1 (hD1.weaken (fun _ q _ h => va_A.le hD hS C.hA q.1 h)) hS1 hl)
theorem x_P_J (C : Cx X cc nL own Ts rm) {y : MethodName} {wsY wsY' : List Cond} {rmY : Room} {bytes : ByteArray} {maxL mc ms index : Nat} {ret : Option FieldType} {As rest st0 : List Value} {post : Int → va_W → Prop} (nA : Nat) {Cn : String} {T : u_T} {N ci b : Nat} {fs : List Value} (q0 : Nat) (he : ws[q0]? = some (b, ob ci fs)) (hc : vwCl[ci]? = some (Cn, T, N)) (hG : GoodIn Ts (va_wsSU own index y wsY)) (hno : y.name ≠ "<init>" ∧ (parseMethodDescriptor y.desc).map (fun d => d.parameters.length) = some nA) (hM : MJ X.l X.γ y wsY rmY (.ref b :: As) ws post mc ms) (hw : wsY = Cond.code y bytes maxL ret :: wsY') (hy : okY y nA) (hR : roomOk rm rmY maxL k n mc ms = true) (hn : As.length = nA) (hst : st0 = As.reverse ++ .ref b :: rest) (hW : (rest.map fun v : Value => v.category).sum.ble 8 = true) (d : decode cc pc = .ok (.invokespecial index, 3)) (kk : ∀ (a : Int) (w1 : va_W), post a w1 → Wx X (k + mc) (n + ms) w1 (pc + 3) L (.long (jN a) :: rest)) : Wx X k n ws pc L st0 := by
  intro H locs ls hP hD hS hl
  obtain ⟨hR1, hR2, hR3, hR4⟩ := roomOk.out hR
  have hRR := C.hR
  subst hst
  refine va_calll (va_runSU (As := As) (rest := rest) (C.hK.1.1 ci _ hc).2 C.fix (hM H.size) (va_cwSU nA C.hts hG hw hR3 hR4 hno (by rw [hRR]; exact hR1)) ⟨preG.blind _ _ _ _, va_recv C.hK.1 hP hc he, fun U hU hWa => preG.at hU hWa C.hK hP hD⟩ rfl hn (hl.1.trans C.hnL) rfl (lv_room (Nat.le_of_ble_eq_true hW)) d (by rw [hRR]; exact hR2)) hS (fun q _ h => va_A.le hD hS C.hA q h) (va_A.le hD hS C.hA) (fun r w1 t H1 locs1 ht hvm hw hB hz hk1 hS1 => by
    obtain ⟨a, rfl, hp⟩ := hw
    obtain ⟨hP1, hD1⟩ := hB
    rw [ht] at hP1
    exact kk a w1 hp H1 locs1 ls hP1 (hD1.weaken (fun _ q _ h => va_A.le hD hS C.hA q.1 h)) hS1 hl)
theorem x_V_V (C : Cx X cc nL own Ts rm) {y : MethodName} {wsY wsY' : List Cond} {rmY : Room} {bytes : ByteArray} {maxL mc ms index : Nat} {ret : Option FieldType} {As rest st0 : List Value} {post : va_W → Prop} (nA : Nat) {Cn : String} {T : u_T} {N ci b : Nat} {fs : List Value} (q0 : Nat) (he : ws[q0]? = some (b, ob ci fs)) (hc : vwCl[ci]? = some (Cn, T, N)) (hG : GoodIn Ts (wsV own index Cn y wsY)) (hcls : y.cls = Cn) (hM : MV X.l X.γ y wsY rmY (.ref b :: As) ws post mc ms) (hw : wsY = Cond.code y bytes maxL ret :: wsY') (hy : okY y nA) (hR : roomOk rm rmY maxL k n mc ms = true) (hn : As.length = nA) (hst : st0 = As.reverse ++ .ref b :: rest) (hW : (rest.map fun v : Value => v.category).sum.ble 8 = true) (d : decode cc pc = .ok (.invokevirtual index, 3)) (kk : ∀ (w1 : va_W), post w1 → Wx X (k + mc) (n + ms) w1 (pc + 3) L rest) : Wx X k n ws pc L st0 := by
  intro H locs ls hP hD hS hl
  obtain ⟨hR1, hR2, hR3, hR4⟩ := roomOk.out hR
  have hRR := C.hR
  subst hst
  refine va_callv (va_runV (As := As) (rest := rest) C.fix (hM H.size) (cwV nA C.hts hG hw hR3 hR4 ⟨hcls, hy⟩ (by rw [hRR]; exact hR1)) ⟨preG.blind _ _ _ _, va_recv C.hK.1 hP hc he, fun U hU hWa => preG.at hU hWa C.hK hP hD⟩ rfl hn (hl.1.trans C.hnL) rfl (lv_room (Nat.le_of_ble_eq_true hW)) d (by rw [hRR]; exact hR2)) hS (fun q _ h => va_A.le hD hS C.hA q h) (va_A.le hD hS C.hA) (fun w1 t H1 locs1 ht hvm hw hB hz hk1 hS1 => by
    obtain ⟨hP1, hD1⟩ := hB
    rw [ht] at hP1
    exact kk w1 hw H1 locs1 ls hP1 (hD1.weaken (fun _ q _ h => va_A.le hD hS C.hA q.1 h)) hS1 hl)
theorem x_S_V (C : Cx X cc nL own Ts rm) {y : MethodName} {wsY wsY' : List Cond} {rmY : Room} {bytes : ByteArray} {maxL mc ms index : Nat} {ret : Option FieldType} {As rest st0 : List Value} {post : va_W → Prop} (nA : Nat) (hG : GoodIn Ts (va_wsS own index y wsY)) (hM : MV X.l X.γ y wsY rmY As ws post mc ms) (hw : wsY = Cond.code y bytes maxL ret :: wsY') (hy : okY y nA) (hR : roomOk rm rmY maxL k n mc ms = true) (hn : As.length = nA) (hst : st0 = As.reverse ++ rest) (hW : (rest.map fun v : Value => v.category).sum.ble 8 = true) (d : decode cc pc = .ok (.invokestatic index, 3)) (kk : ∀ (w1 : va_W), post w1 → Wx X (k + mc) (n + ms) w1 (pc + 3) L rest) : Wx X k n ws pc L st0 := by
  intro H locs ls hP hD hS hl
  obtain ⟨hR1, hR2, hR3, hR4⟩ := roomOk.out hR
  have hRR := C.hR
  subst hst
  refine va_callv (va_runS (As := As) (rest := rest) C.fix (hM H.size) (va_cwS nA C.hts hG hw hR3 hR4 hy (by rw [hRR]; exact hR1)) ⟨preG.blind _ _ _ _, fun U hU hWa => preG.at hU hWa C.hK hP hD⟩ rfl hn (hl.1.trans C.hnL) rfl (lv_room (Nat.le_of_ble_eq_true hW)) d (by rw [hRR]; exact hR2)) hS (fun q _ h => va_A.le hD hS C.hA q h) (va_A.le hD hS C.hA) (fun w1 t H1 locs1 ht hvm hw hB hz hk1 hS1 => by
    obtain ⟨hP1, hD1⟩ := hB
    rw [ht] at hP1
    exact kk w1 hw H1 locs1 ls hP1 (hD1.weaken (fun _ q _ h => va_A.le hD hS C.hA q.1 h)) hS1 hl)
theorem x_N_V (C : Cx X cc nL own Ts rm) {y : MethodName} {wsY wsY' : List Cond} {rmY : Room} {bytes : ByteArray} {maxL mc ms index : Nat} {ret : Option FieldType} {As rest st0 : List Value} {post : va_W → Prop} (nA : Nat) {host : String} (hG : GoodIn Ts wsY) (hnest : (own, index, y, host) ∈ nestL) (hini : Cond.initialized y.cls ∈ Ts) (hsta : Cond.static y ∈ Ts) (hM : MV X.l X.γ y wsY rmY As ws post mc ms) (hw : wsY = Cond.code y bytes maxL ret :: wsY') (hy : okY y nA) (hR : roomOk rm rmY maxL k n mc ms = true) (hn : As.length = nA) (hst : st0 = As.reverse ++ rest) (hW : (rest.map fun v : Value => v.category).sum.ble 8 = true) (d : decode cc pc = .ok (.invokestatic index, 3)) (kk : ∀ (w1 : va_W), post w1 → Wx X (k + mc) (n + ms) w1 (pc + 3) L rest) : Wx X k n ws pc L st0 := by
  intro H locs ls hP hD hS hl
  obtain ⟨hR1, hR2, hR3, hR4⟩ := roomOk.out hR
  have hRR := C.hR
  subst hst
  refine va_callv (va_runSN (As := As) (rest := rest) C.fix (hM H.size) ⟨va_cnB nA C.hts hG hw hR3 hR4 (C.hK.2.1 _ hnest) (C.hts _ hini) hy (by rw [hRR]; exact hR1), C.hts _ hsta, trivial⟩ ⟨preG.blind _ _ _ _, fun U hU hWa => preG.at hU hWa C.hK hP hD⟩ rfl hn (hl.1.trans C.hnL) rfl (lv_room (Nat.le_of_ble_eq_true hW)) d (by rw [hRR]; exact hR2)) hS (fun q _ h => va_A.le hD hS C.hA q h) (va_A.le hD hS C.hA) (fun w1 t H1 locs1 ht hvm hw hB hz hk1 hS1 => by
    obtain ⟨hP1, hD1⟩ := hB
    rw [ht] at hP1
    exact kk w1 hw H1 locs1 ls hP1 (hD1.weaken (fun _ q _ h => va_A.le hD hS C.hA q.1 h)) hS1 hl)
theorem x_U_V (C : Cx X cc nL own Ts rm) {y : MethodName} {wsY wsY' : List Cond} {rmY : Room} {bytes : ByteArray} {maxL mc ms index : Nat} {ret : Option FieldType} {As rest st0 : List Value} {post : va_W → Prop} (nA : Nat) {Cn : String} {T : u_T} {N ci b : Nat} {fs : List Value} (q0 : Nat) (he : ws[q0]? = some (b, ob ci fs)) (hc : vwCl[ci]? = some (Cn, T, N)) {owner : String} {x : MethodName} (hG : GoodIn Ts (va_wsU own index Cn owner x y wsY)) (hyx : y = ⟨owner, x.name, x.desc⟩) (hx : owner ≠ "java/lang/invoke/MethodHandle" ∧ owner ≠ "java/lang/invoke/VarHandle" ∧ (parseMethodDescriptor x.desc).map (fun d => d.parameters.length) = some nA) (hM : MV X.l X.γ y wsY rmY (.ref b :: As) ws post mc ms) (hw : wsY = Cond.code y bytes maxL ret :: wsY') (hy : okY y nA) (hR : roomOk rm rmY maxL k n mc ms = true) (hn : As.length = nA) (hst : st0 = As.reverse ++ .ref b :: rest) (hW : (rest.map fun v : Value => v.category).sum.ble 8 = true) (d : decode cc pc = .ok (.invokevirtual index, 3)) (kk : ∀ (w1 : va_W), post w1 → Wx X (k + mc) (n + ms) w1 (pc + 3) L rest) : Wx X k n ws pc L st0 := by
  intro H locs ls hP hD hS hl
  obtain ⟨hR1, hR2, hR3, hR4⟩ := roomOk.out hR
  have hRR := C.hR
  subst hst
  refine va_callv (va_runU (As := As) (rest := rest) C.fix (hM H.size) (va_cwU nA C.hts hG hw hR3 hR4 hyx hx (by rw [hRR]; exact hR1)) ⟨preG.blind _ _ _ _, va_recv C.hK.1 hP hc he, fun U hU hWa => preG.at hU hWa C.hK hP hD⟩ rfl hn (hl.1.trans C.hnL) rfl (lv_room (Nat.le_of_ble_eq_true hW)) d (by rw [hRR]; exact hR2)) hS (fun q _ h => va_A.le hD hS C.hA q h) (va_A.le hD hS C.hA) (fun w1 t H1 locs1 ht hvm hw hB hz hk1 hS1 => by
    obtain ⟨hP1, hD1⟩ := hB
    rw [ht] at hP1
    exact kk w1 hw H1 locs1 ls hP1 (hD1.weaken (fun _ q _ h => va_A.le hD hS C.hA q.1 h)) hS1 hl)
theorem x_O_V (C : Cx X cc nL own Ts rm) {y : MethodName} {wsY wsY' : List Cond} {rmY : Room} {bytes : ByteArray} {maxL mc ms index : Nat} {ret : Option FieldType} {As rest st0 : List Value} {post : va_W → Prop} (nA : Nat) {Cn : String} {T : u_T} {N ci b : Nat} {fs : List Value} (q0 : Nat) (he : ws[q0]? = some (b, ob ci fs)) (hc : vwCl[ci]? = some (Cn, T, N)) {owner : String} {x : MethodName} (hG : GoodIn Ts (va_wsO own index Cn owner x y wsY)) {b0 : ByteArray} {m0 : Nat} {r0 : Option FieldType} (h0 : Cond.code ⟨owner, x.name, x.desc⟩ b0 m0 r0 ∈ Ts) (hx : owner ≠ "java/lang/invoke/MethodHandle" ∧ owner ≠ "java/lang/invoke/VarHandle" ∧ (parseMethodDescriptor x.desc).map (fun d => d.parameters.length) = some nA) (hM : MV X.l X.γ y wsY rmY (.ref b :: As) ws post mc ms) (hw : wsY = Cond.code y bytes maxL ret :: wsY') (hy : okY y nA) (hR : roomOk rm rmY maxL k n mc ms = true) (hn : As.length = nA) (hst : st0 = As.reverse ++ .ref b :: rest) (hW : (rest.map fun v : Value => v.category).sum.ble 8 = true) (d : decode cc pc = .ok (.invokevirtual index, 3)) (kk : ∀ (w1 : va_W), post w1 → Wx X (k + mc) (n + ms) w1 (pc + 3) L rest) : Wx X k n ws pc L st0 := by
  intro H locs ls hP hD hS hl
  obtain ⟨hR1, hR2, hR3, hR4⟩ := roomOk.out hR
  have hRR := C.hR
  subst hst
  refine va_callv (va_runU (As := As) (rest := rest) C.fix (hM H.size) (va_cwO nA C.hts hG hw hR3 hR4 h0 hx (by rw [hRR]; exact hR1)) ⟨preG.blind _ _ _ _, va_recv C.hK.1 hP hc he, fun U hU hWa => preG.at hU hWa C.hK hP hD⟩ rfl hn (hl.1.trans C.hnL) rfl (lv_room (Nat.le_of_ble_eq_true hW)) d (by rw [hRR]; exact hR2)) hS (fun q _ h => va_A.le hD hS C.hA q h) (va_A.le hD hS C.hA) (fun w1 t H1 locs1 ht hvm hw hB hz hk1 hS1 => by
    obtain ⟨hP1, hD1⟩ := hB
    rw [ht] at hP1
    exact kk w1 hw H1 locs1 ls hP1 (hD1.weaken (fun _ q _ h => va_A.le hD hS C.hA q.1 h)) hS1 hl)
theorem x_P_V (C : Cx X cc nL own Ts rm) {y : MethodName} {wsY wsY' : List Cond} {rmY : Room} {bytes : ByteArray} {maxL mc ms index : Nat} {ret : Option FieldType} {As rest st0 : List Value} {post : va_W → Prop} (nA : Nat) {Cn : String} {T : u_T} {N ci b : Nat} {fs : List Value} (q0 : Nat) (he : ws[q0]? = some (b, ob ci fs)) (hc : vwCl[ci]? = some (Cn, T, N)) (hG : GoodIn Ts (va_wsSU own index y wsY)) (hno : y.name ≠ "<init>" ∧ (parseMethodDescriptor y.desc).map (fun d => d.parameters.length) = some nA) (hM : MV X.l X.γ y wsY rmY (.ref b :: As) ws post mc ms) (hw : wsY = Cond.code y bytes maxL ret :: wsY') (hy : okY y nA) (hR : roomOk rm rmY maxL k n mc ms = true) (hn : As.length = nA) (hst : st0 = As.reverse ++ .ref b :: rest) (hW : (rest.map fun v : Value => v.category).sum.ble 8 = true) (d : decode cc pc = .ok (.invokespecial index, 3)) (kk : ∀ (w1 : va_W), post w1 → Wx X (k + mc) (n + ms) w1 (pc + 3) L rest) : Wx X k n ws pc L st0 := by
  intro H locs ls hP hD hS hl
  obtain ⟨hR1, hR2, hR3, hR4⟩ := roomOk.out hR
  have hRR := C.hR
  subst hst
  refine va_callv (va_runSU (As := As) (rest := rest) (C.hK.1.1 ci _ hc).2 C.fix (hM H.size) (va_cwSU nA C.hts hG hw hR3 hR4 hno (by rw [hRR]; exact hR1)) ⟨preG.blind _ _ _ _, va_recv C.hK.1 hP hc he, fun U hU hWa => preG.at hU hWa C.hK hP hD⟩ rfl hn (hl.1.trans C.hnL) rfl (lv_room (Nat.le_of_ble_eq_true hW)) d (by rw [hRR]; exact hR2)) hS (fun q _ h => va_A.le hD hS C.hA q h) (va_A.le hD hS C.hA) (fun w1 t H1 locs1 ht hvm hw hB hz hk1 hS1 => by
    obtain ⟨hP1, hD1⟩ := hB
    rw [ht] at hP1
    exact kk w1 hw H1 locs1 ls hP1 (hD1.weaken (fun _ q _ h => va_A.le hD hS C.hA q.1 h)) hS1 hl)
theorem x_I_V (C : Cx X cc nL own Ts rm) {y : MethodName} {wsY wsY' : List Cond} {rmY : Room} {bytes : ByteArray} {maxL mc ms index : Nat} {ret : Option FieldType} {As rest st0 : List Value} {post : va_W → Prop} (nA : Nat) {b : Nat} (hG : GoodIn Ts wsY) (hini : Cond.initialized y.cls ∈ Ts) (hml : Cond.methodLink own index y ∈ Ts) (hin : Cond.instanceMethod y ∈ Ts) (hy1 : y.name = "<init>") (hrn : ret = none) (hM : MV X.l X.γ y wsY rmY (.ref b :: As) ws post mc ms) (hw : wsY = Cond.code y bytes maxL ret :: wsY') (hy : okY y nA) (hR : roomOk rm rmY maxL k n mc ms = true) (hn : As.length = nA) (hst : st0 = As.reverse ++ .ref b :: rest) (hW : (rest.map fun v : Value => v.category).sum.ble 8 = true) (d : decode cc pc = .ok (.invokespecial index, 3)) (kk : ∀ (w1 : va_W), post w1 → Wx X (k + mc) (n + ms) w1 (pc + 3) L rest) : Wx X k n ws pc L st0 := by
  intro H locs ls hP hD hS hl
  obtain ⟨hR1, hR2, hR3, hR4⟩ := roomOk.out hR
  have hRR := C.hR
  subst hst
  refine va_callv (va_runI (As := As) (rest := rest) C.fix (hM H.size) (cwI nA C.hts hG (by rw [← hrn]; exact hw) hR3 hR4 (C.hts _ hini) (C.hts _ hml) (C.hts _ hin) hy1 hy (by rw [hRR]; exact hR1)) ⟨preG.blind _ _ _ _, fun U hU hWa => preG.at hU hWa C.hK hP hD⟩ rfl hn (hl.1.trans C.hnL) rfl (lv_room (Nat.le_of_ble_eq_true hW)) d (by rw [hRR]; exact hR2)) hS (fun q _ h => va_A.le hD hS C.hA q h) (va_A.le hD hS C.hA) (fun w1 t H1 locs1 ht hvm hw hB hz hk1 hS1 => by
    obtain ⟨hP1, hD1⟩ := hB
    rw [ht] at hP1
    exact kk w1 hw H1 locs1 ls hP1 (hD1.weaken (fun _ q _ h => va_A.le hD hS C.hA q.1 h)) hS1 hl)
end HCALLS
