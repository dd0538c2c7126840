section HEXF
theorem ZG.narrow {A B : Nat → Prop} {U : State} (h : ZG A U) (hAB : ∀ q, B q → A q) : ZG B U := ⟨⟨h.1.1.narrow hAB, h.1.2.narrow hAB⟩, h.2⟩
theorem app_preZ {γ : GX} {av : List Value} {w1 wc w2 : va_W} {sz : Nat} (a : Array Value) (U : State) (h : preZ γ av (w1 ++ wc ++ w2) sz a U) : preZ γ av wc sz a U := by
  refine ⟨h.1, h.2.1, fun k q hq => h.2.2.1 _ _ (app_mid hq), h.2.2.2.1, ⟨fun i j p q hp hq e => ?_, fun k q hq => trivial⟩, h.2.2.2.2.2.narrow app_A⟩
  have := h.2.2.2.2.1.1 _ _ p q (app_mid (w1 := w1) (w2 := w2) hp) (app_mid (w1 := w1) (w2 := w2) hq) e
  omega
theorem vx_Met.conv {l : Launch} {y : MethodName} {ws : List Cond} {rm : Room} {Pc Pc' : Array Value → State → Prop} {Qc Qc' : Array Value → State → Outcome → State → Prop} {XC XC' : String → State → State → Prop} {mc ms : Nat} {free free' : Addr → Prop} (h : vx_Met l y ws rm Pc Qc XC mc ms free) (h1 : ∀ a U, Pc' a U → Pc a U) (h2 : ∀ a s o t, Pc' a s → Qc a s o t → Qc' a s o t) (hX : ∀ a E s t, Pc' a s → XC E s t → XC' E s t) (h3 : ∀ q, free q → free' q) : vx_Met l y ws rm Pc' Qc' XC' mc ms free' := by
  intro p e ha hc hk s m args below hf happ hP hKK
  obtain ⟨n, o, i1, i2, i3, q⟩ := h p e ha hc hk s m args below hf happ (h1 _ _ hP) hKK
  refine ⟨n, o, i1, i2, i3, ?_⟩
  rcases q with ⟨q, L, fe, hL⟩ | ⟨q, ho, E, ce, L, x1, x2, x3, x4, x5, x6, hL⟩
  · exact Or.inl ⟨h2 _ _ _ _ hP q, L, fe, fun q hq => h3 _ (hL q hq)⟩
  · exact Or.inr ⟨q, ho, E, ce, L, hX _ _ _ _ hP x1, x2, x3, x4, x5, x6, fun z hz => h3 _ (hL z hz)⟩
theorem MIz.app {l : Launch} {γ : GX} {y : MethodName} {ws : List Cond} {rm : Room} {av : List Value} {wc : va_W} {post : Int → va_W → Prop} {mc ms : Nat} (h : MIz l γ y ws rm av wc post mc ms) (w1 w2 : va_W) : MIz l γ y ws rm av (w1 ++ wc ++ w2) (fun r w => ∃ w', post r w' ∧ w = w1 ++ w' ++ w2) mc ms := by
  intro sz
  refine (h sz).conv app_preZ (fun a s o t hP hQ => ?_) app_A
  obtain ⟨⟨r, w', e1, ⟨x, e2, hpost⟩, e3⟩, hF⟩ := hQ
  obtain ⟨hP1, hP2, hP3, hP4, hP5, hP6⟩ := hP
  subst hP2
  exact ⟨⟨r, _, e1, ⟨x, e2, w', hpost, rfl⟩, app_end hP3 hP5 hF e3⟩, frame_F hF app_A⟩
theorem MIz.post {l : Launch} {γ : GX} {y : MethodName} {ws : List Cond} {rm : Room} {av : List Value} {wc : va_W} {post post' : Int → va_W → Prop} {mc ms : Nat} (h : MIz l γ y ws rm av wc post mc ms) (hp : ∀ a w1, post a w1 → post' a w1) : MIz l γ y ws rm av wc post' mc ms := by
  intro sz
  refine (h sz).conv (fun _ _ h => h) (fun a s o t hP hQ => ?_) (fun q hq => hq)
  obtain ⟨⟨r, w1, e1, ⟨x, e2, hpost⟩, e3⟩, hF⟩ := hQ
  exact ⟨⟨r, w1, e1, ⟨x, e2, hp x w1 hpost⟩, e3⟩, hF⟩
theorem MVz.app {l : Launch} {γ : GX} {y : MethodName} {ws : List Cond} {rm : Room} {av : List Value} {wc : va_W} {post : va_W → Prop} {mc ms : Nat} (h : MVz l γ y ws rm av wc post mc ms) (w1 w2 : va_W) : MVz l γ y ws rm av (w1 ++ wc ++ w2) (fun w => ∃ w', post w' ∧ w = w1 ++ w' ++ w2) mc ms := by
  intro sz
  refine (h sz).conv app_preZ (fun a s o t hP hQ => ?_) app_A
  obtain ⟨⟨w', e1, hpost, e3⟩, hF⟩ := hQ
  obtain ⟨hP1, hP2, hP3, hP4, hP5, hP6⟩ := hP
  subst hP2
  exact ⟨⟨_, e1, ⟨w', hpost, rfl⟩, app_end hP3 hP5 hF e3⟩, frame_F hF app_A⟩
theorem MJx.app {l : Launch} {γ : GX} {y : MethodName} {ws : List Cond} {rm : Room} {av : List Value} {wc : va_W} {post : Int → va_W → Prop} {px : String → va_W → Prop} {mc ms : Nat} (h : MJx l γ y ws rm av wc post px mc ms) (w1 w2 : va_W) : MJx l γ y ws rm av (w1 ++ wc ++ w2) (fun r w => ∃ w', post r w' ∧ w = w1 ++ w' ++ w2) (fun E w => ∃ w', px E w' ∧ w = w1 ++ w' ++ w2) mc ms := by
  intro sz
  refine (h sz).conv app_preZ (fun a s o t hP hQ => ?_) (fun a E s t hP hQ => ?_) app_A
  · obtain ⟨⟨r, w', e1, ⟨x, e2, hpost⟩, e3⟩, hF⟩ := hQ
    obtain ⟨hP1, hP2, hP3, hP4, hP5, hP6⟩ := hP
    subst hP2
    exact ⟨⟨r, _, e1, ⟨x, e2, w', hpost, rfl⟩, app_end hP3 hP5 hF e3⟩, frame_F hF app_A⟩
  · obtain ⟨w', -, ⟨hpost, e3⟩, hF⟩ := hQ
    obtain ⟨hP1, hP2, hP3, hP4, hP5, hP6⟩ := hP
    subst hP2
    exact ⟨_, trivial, ⟨⟨w', hpost, rfl⟩, app_end hP3 hP5 hF e3⟩, frame_F hF app_A⟩
end HEXF
