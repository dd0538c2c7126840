section HAPP
theorem app_mid {w1 wc w2 : va_W} {k : Nat} {q : Nat × va_E} (h : wc[k]? = some q) : (w1 ++ wc ++ w2)[w1.length + k]? = some q := by
  have hl := (List.getElem?_eq_some_iff.mp h).1
  rw [List.append_assoc, List.getElem?_append_right (by omega), show w1.length + k - w1.length = k by omega, List.getElem?_append_left hl]
  exact h
theorem app_l {w1 wc w2 : va_W} {k : Nat} {q : Nat × va_E} (h : w1[k]? = some q) : (w1 ++ wc ++ w2)[k]? = some q := by
  have hl := (List.getElem?_eq_some_iff.mp h).1
  rw [List.append_assoc, List.getElem?_append_left hl]
  exact h
theorem app_r {w1 wc w2 : va_W} {k : Nat} {q : Nat × va_E} (h : w2[k]? = some q) : (w1 ++ wc ++ w2)[w1.length + wc.length + k]? = some q := by
  have e : (w1 ++ wc).length = w1.length + wc.length := List.length_append
  rw [List.getElem?_append_right (by omega), e, show w1.length + wc.length + k - (w1.length + wc.length) = k by omega]
  exact h
theorem app_pre {γ : GX} {av : List Value} {w1 wc w2 : va_W} {sz : Nat} (a : Array Value) (U : State) (h : preG γ av (w1 ++ wc ++ w2) sz a U) : preG γ av wc sz a U := by
  refine ⟨h.1, h.2.1, fun k q hq => h.2.2.1 _ _ (app_mid hq), h.2.2.2.1, ⟨fun i j p q hp hq e => ?_, fun k q hq => trivial⟩⟩
  have := h.2.2.2.2.1 _ _ p q (app_mid (w1 := w1) (w2 := w2) hp) (app_mid (w1 := w1) (w2 := w2) hq) e
  omega
theorem app_A {w1 wc w2 : va_W} {sz : Nat} : ∀ q, va_A wc sz q → va_A (w1 ++ wc ++ w2) sz q := fun q h => by
  rcases h with ⟨k, e, h⟩ | h
  · exact Or.inl ⟨_, e, app_mid h⟩
  · exact Or.inr h
theorem app_end {γ : GX} {w1 wc w2 w' : va_W} {st t : State} (hP : va_P γ.1 vwCl (w1 ++ wc ++ w2) st.heap) (hD : va_D (fun _ => True) (w1 ++ wc ++ w2)) (hF : va_F (va_A wc st.heap.size) st t) (he : endG γ wc st.heap.size w' t) : endG γ (w1 ++ wc ++ w2) st.heap.size (w1 ++ w' ++ w2) t := by
  obtain ⟨e1, e2⟩ := he
  have n1 : ∀ (k : Nat) (q : Nat × va_E), w1[k]? = some q → q.1 < st.heap.size ∧ ¬ va_A wc st.heap.size q.1 := fun k q hq => by
    have hlt := (hP _ _ (app_l (wc := wc) (w2 := w2) hq)).lt
    have hk := (List.getElem?_eq_some_iff.mp hq).1
    refine ⟨hlt, fun h => ?_⟩
    rcases h with ⟨j, e, h⟩ | h
    · have := hD.1 _ _ q (q.1, e) (app_l (wc := wc) (w2 := w2) hq) (app_mid (w1 := w1) (w2 := w2) h) rfl
      omega
    · omega
  have n2 : ∀ (k : Nat) (q : Nat × va_E), w2[k]? = some q → q.1 < st.heap.size ∧ ¬ va_A wc st.heap.size q.1 := fun k q hq => by
    have hlt := (hP _ _ (app_r (w1 := w1) (wc := wc) hq)).lt
    refine ⟨hlt, fun h => ?_⟩
    rcases h with ⟨j, e, h⟩ | h
    · have hj := (List.getElem?_eq_some_iff.mp h).1
      have := hD.1 _ _ q (q.1, e) (app_r (w1 := w1) (wc := wc) hq) (app_mid (w1 := w1) (w2 := w2) h) rfl
      omega
    · omega
  have h1 : va_P γ.1 vwCl w1 t.heap := fun k q hq => (hP _ _ (app_l (wc := wc) (w2 := w2) hq)).kept (hF.2 q.1 (n1 k q hq).1 (n1 k q hq).2)
  have h2 : va_P γ.1 vwCl w2 t.heap := fun k q hq => (hP _ _ (app_r (w1 := w1) (wc := wc) hq)).kept (hF.2 q.1 (n2 k q hq).1 (n2 k q hq).2)
  refine ⟨(h1.app e1).app h2, ?_⟩
  have d1 : va_D (va_A (w1 ++ wc ++ w2) st.heap.size) w1 := ⟨fun i j p q hp hq e => hD.1 i j p q (app_l hp) (app_l hq) e, fun k q hq => Or.inl ⟨k, q.2, app_l hq⟩⟩
  have d2 : va_D (va_A (w1 ++ wc ++ w2) st.heap.size) w2 := ⟨fun i j p q hp hq e => by
    have := hD.1 _ _ p q (app_r (w1 := w1) (wc := wc) hp) (app_r (w1 := w1) (wc := wc) hq) e
    omega, fun k q hq => Or.inl ⟨_, q.2, app_r hq⟩⟩
  have d3 : va_D (va_A (w1 ++ wc ++ w2) st.heap.size) w' := e2.weaken (fun _ q _ h => app_A q.1 h)
  refine va_D.app (va_D.app d1 d3 (fun i j x y hx hy e => (n1 i x hx).2 (by rw [e]; exact e2.2 j y hy))) d2 (fun i j x y hx hy e => ?_)
  rcases List.mem_append.mp (List.mem_of_getElem? hx) with hm | hm
  · obtain ⟨i', hi'⟩ := List.getElem?_of_mem hm
    have hk := (List.getElem?_eq_some_iff.mp hi').1
    have := hD.1 _ _ x y (app_l (wc := wc) (w2 := w2) hi') (app_r (w1 := w1) (wc := wc) hy) e
    omega
  · obtain ⟨i', hi'⟩ := List.getElem?_of_mem hm
    exact (n2 j y hy).2 (by rw [← e]; exact e2.2 i' x hi')
/-- the same contract in a wider world -/
theorem MI.app {l : Launch} {γ : GX} {y : MethodName} {ws : List Cond} {rm : Room} {av : List Value} {wc : va_W} {post : Int → va_W → Prop} {mc ms : Nat} (h : MI l γ y ws rm av wc post mc ms) (w1 w2 : va_W) : MI l γ y ws rm av (w1 ++ wc ++ w2) (fun r w => ∃ w', post r w' ∧ w = w1 ++ w' ++ w2) mc ms := by
  intro sz
  refine (h sz).conv app_pre (fun a s o t hP hQ => ?_) app_A
  obtain ⟨⟨r, w', e1, ⟨x, e2, hpost⟩, e3⟩, hF⟩ := hQ
  obtain ⟨hP1, hP2, hP3, hP4, hP5⟩ := hP
  subst hP2
  exact ⟨⟨r, _, e1, ⟨x, e2, w', hpost, rfl⟩, app_end hP3 hP5 hF e3⟩, frame_F hF app_A⟩
/-- the same contract in a wider world -/
theorem MJ.app {l : Launch} {γ : GX} {y : MethodName} {ws : List Cond} {rm : Room} {av : List Value} {wc : va_W} {post : Int → va_W → Prop} {mc ms : Nat} (h : MJ l γ y ws rm av wc post mc ms) (w1 w2 : va_W) : MJ l γ y ws rm av (w1 ++ wc ++ w2) (fun r w => ∃ w', post r w' ∧ w = w1 ++ w' ++ w2) mc ms := by
  intro sz
  refine (h sz).conv app_pre (fun a s o t hP hQ => ?_) app_A
  obtain ⟨⟨r, w', e1, ⟨x, e2, hpost⟩, e3⟩, hF⟩ := hQ
  obtain ⟨hP1, hP2, hP3, hP4, hP5⟩ := hP
  subst hP2
  exact ⟨⟨r, _, e1, ⟨x, e2, w', hpost, rfl⟩, app_end hP3 hP5 hF e3⟩, frame_F hF app_A⟩
theorem MV.app {l : Launch} {γ : GX} {y : MethodName} {ws : List Cond} {rm : Room} {av : List Value} {wc : va_W} {post : va_W → Prop} {mc ms : Nat} (h : MV l γ y ws rm av wc post mc ms) (w1 w2 : va_W) : MV l γ y ws rm av (w1 ++ wc ++ w2) (fun w => ∃ w', post w' ∧ w = w1 ++ w' ++ w2) mc ms := by
  intro sz
  refine (h sz).conv app_pre (fun a s o t hP hQ => ?_) app_A
  obtain ⟨⟨w', e1, hpost, e3⟩, hF⟩ := hQ
  obtain ⟨hP1, hP2, hP3, hP4, hP5⟩ := hP
  subst hP2
  exact ⟨⟨_, e1, ⟨w', hpost, rfl⟩, app_end hP3 hP5 hF e3⟩, frame_F hF app_A⟩
end HAPP
