/-! THE CLAIM OUT OF ONE WALK OF THE LAW'S BODY. Your part is whole_start (and what it stands on); all else here is the same for every law, but numbers. -/
def R_law : String := "HillsLieDownLaw"
def lw_P (b : Addr) (xs : List Int32) (args : Array Value) (s : State) : Prop := args = #[.ref b] ∧ s.IntsAt b xs ∧ xs.length ≤ 3072 ∧ (Jvm.Cond.and given_1 narrow_1).before args s = true
def lw_Q (_ : Array Value) (s : State) (o : Outcome) (t : State) : Prop := o = .returned (some (.int 1)) ∧ Framed s o t [] 601024 7293034
def lw_Z (below : List Frame) (a : Array Value) (s : State) : State → Prop := fun t => ∃ o, t.status = .running ∧ Ended t below o ∧ lw_Q a s o t
/-- the law's own end, with 1 on the stack, nothing written that was there before, its room as the claim has it -/
theorem lw_ret {p : Program} {l : Launch} {e : Env} {s : State} {m : MethodId} {below : List Frame} {meth : Method} {c : Code} {b : Nat} (hx : p.tables.exec = Jvm.exec) (hb : c.code = code) (hr : meth.sig.returnType = ret) (hlocks : meth.locks = false) {pc : Nat} {H : Heap} {ls : Array Slot} (hdg : decode code pc = .ok (.ireturn, 1)) : W p l e room_1 s m #[Value.ref b] below meth c H [] 601024 7293034 (lw_Z below #[Value.ref b] s) (F0 m pc ls [.int 1]) := by
  intro T hT X
  obtain ⟨fs, hret, hrun, hended, hW, hframe⟩ := X.leave (v := some (.int 1)) (hlocks := hlocks) (fun h => by rw [hr] at h; cases h)
  have hmeth' : T.vm.method? m = some meth := X.method'
  refine ⟨T.setFrames fs, ?_, .returned (some (.int 1)), hrun, hended, rfl, ⟨_, rfl⟩, hW, hframe⟩
  jvm_step X.here [X.here.top, hx, hb, hdg, hmeth', hr, ret, narrow_b1]
  (try refine ⟨rfl, ?_⟩); (try refine ⟨rfl, ?_⟩)
  first | (intro acts; rw [hret _ acts rfl rfl rfl]) | rw [hret _ _ rfl rfl rfl]
  exact Steps.refl _
/-- what holds at the law's entry: the machine, the code, the tables' words (any of lw_tbl by 'hts w (by decide +kernel)'), the script of L ints xs at the cell b, what the Statement gives of the start (any of its parts by flat_of_before) -/
def lw_At (p : Program) (s : State) (m : MethodId) (meth : Method) (c : Code) (b L : Nat) (xs : Nat → Int32) : Prop :=
  p.tables.exec = Jvm.exec ∧ c.code = code ∧ meth.sig.returnType = ret ∧ c.maxLocals = 8 ∧ s.vm.findClass R_law = some m.cls ∧ (∀ w ∈ lw_tbl, w.before #[Value.ref b] s = true) ∧ va_X b L xs s s.heap ∧ b < s.heap.size ∧ meth.locks = false ∧ (Jvm.Cond.and given_1 narrow_1).before #[Value.ref b] s = true
theorem lw_nest : ∀ q ∈ nestL, Cond.methodLinkNest q.1 q.2.1 q.2.2.1 q.2.2.2 ∈ lw_tbl := by decide +kernel
theorem lw_ext : ∀ w ∈ extL, w ∈ lw_tbl := by decide +kernel
theorem lw_cast : ∀ q ∈ castL, Cond.castable q.1 q.2 ∈ lw_tbl := by decide +kernel
theorem lw_decl : ∀ q ∈ declL, Cond.declares q ∈ lw_tbl := by decide +kernel
theorem PCQ_0 : PCQ (fun _ => 0, 0, 0, fun _ => 0, fun _ => 0, fun _ => 0, fun _ => 0, fun _ => 0, fun _ => 0, fun _ => 0, fun _ => 0, fun _ => 0) = fun _ => 0 := by
  funext j
  unfold PCQ pck
  split
  · rfl
  · split
    · rfl
    · split
      · rfl
      · split
        · rfl
        · split
          · rfl
          · split
            · rfl
            · split <;> rfl
/-- what the tables say at the start -/
theorem lw_KG {s : State} {args : Array Value} (hts : ∀ w ∈ lw_tbl, w.before args s = true) : ∃ γ : GX, KG γ s := by
  obtain ⟨c0, i0, K0⟩ := u_known (C := RX0) (T := TX0) (N := 0) (n := 0) hts inX0 (hts (.instantiable RX0 0) (by decide +kernel))
  obtain ⟨c1, i1, K1⟩ := u_known (C := RX1) (T := TX1) (N := 13) (n := 13) hts inX1 (hts (.instantiable RX1 13) (by decide +kernel))
  obtain ⟨c2, i2, K2⟩ := u_known (C := RX2) (T := TX2) (N := 0) (n := 0) hts inX2 (hts (.instantiable RX2 0) (by decide +kernel))
  obtain ⟨c3, i3, K3⟩ := u_known (C := RX3) (T := TX3) (N := 0) (n := 0) hts inX3 (hts (.instantiable RX3 0) (by decide +kernel))
  obtain ⟨c4, i4, K4⟩ := u_known (C := RX4) (T := TX4) (N := 0) (n := 0) hts inX4 (hts (.instantiable RX4 0) (by decide +kernel))
  obtain ⟨c5, i5, K5⟩ := u_known (C := RX5) (T := TX5) (N := 6) (n := 6) hts inX5 (hts (.instantiable RX5 6) (by decide +kernel))
  obtain ⟨c6, i6, K6⟩ := u_known (C := RX6) (T := TX6) (N := 0) (n := 0) hts inX6 (hts (.instantiable RX6 0) (by decide +kernel))
  obtain ⟨c7, i7, K7⟩ := u_known (C := RX8) (T := TX8) (N := 0) (n := 0) hts inX8 (hts (.instantiable RX8 0) (by decide +kernel))
  obtain ⟨c8, i8, K8⟩ := u_known (C := RX9) (T := TX9) (N := 0) (n := 0) hts inX9 (hts (.instantiable RX9 0) (by decide +kernel))
  obtain ⟨c9, i9, K9⟩ := u_known (C := RX10) (T := TX10) (N := 0) (n := 0) hts inX10 (hts (.instantiable RX10 0) (by decide +kernel))
  obtain ⟨c10, i10, K10⟩ := u_known (C := RX11) (T := TX11) (N := 6) (n := 6) hts inX11 (hts (.instantiable RX11 6) (by decide +kernel))
  obtain ⟨c11, i11, K11⟩ := u_known (C := RX12) (T := TX12) (N := 34) (n := 34) hts inX12 (hts (.instantiable RX12 34) (by decide +kernel))
  obtain ⟨cI, kI, compI, fI, hkI, hkdI⟩ := Cond.arrayClass_spec (hts (.arrayClass .int) (by decide +kernel))
  obtain ⟨cJ, kJ, compJ, fJ, hkJ, hkdJ⟩ := Cond.arrayClass_spec (hts (.arrayClass .long) (by decide +kernel))
  obtain ⟨compS, cS, kS, g1, g2, g3, g4, g5⟩ := Cond.arrayOver_spec (hts (.arrayOver (.object RX5)) (by decide +kernel))
  obtain ⟨compW, cW, kW, j1, j2, j3, j4, j5⟩ := Cond.arrayOver_spec (hts (.arrayOver (.object RX9)) (by decide +kernel))
  refine ⟨((fun k => ([c0, c1, c2, c3, c4, c5, c6, c7, c8, c9, c10, c11] : List ClassId).getD k c0, fun k => ([i0, i1, i2, i3, i4, i5, i6, i7, i8, i9, i10, i11] : List (Nat → Nat)).getD k i0), cI, cJ, cS, cW), ⟨fun c q hq => ?_, fun k q hq => ?_⟩, fun q hq => va_Nw.of rfl (hts _ (lw_nest q hq)), fun w hw => va_Nw.of (by have := extL_ok w hw; simp only [Bool.and_eq_true] at this; exact this.1) (hts _ (lw_ext w hw))⟩
  · match c, hq with
    | 0, hq => cases hq; exact K0
    | 1, hq => cases hq; exact K1
    | 2, hq => cases hq; exact K2
    | 3, hq => cases hq; exact K3
    | 4, hq => cases hq; exact K4
    | 5, hq => cases hq; exact K5
    | 6, hq => cases hq; exact K6
    | 7, hq => cases hq; exact K7
    | 8, hq => cases hq; exact K8
    | 9, hq => cases hq; exact K9
    | 10, hq => cases hq; exact K10
    | 11, hq => cases hq; exact K11
    | c + 12, hq => simp [vwCl] at hq
  · match k, hq with
    | 0, hq => cases hq; exact ⟨fun n z => ⟨fun k h => (by cases h), kI, hkI, compI, hkdI⟩, fI⟩
    | 1, hq => cases hq; exact ⟨fun n z => ⟨fun k h => (by cases h), kJ, hkJ, compJ, hkdJ⟩, fJ⟩
    | 2, hq => cases hq; exact ⟨fun n z => ⟨fun k h => (by cases h), kS, g3, compS, g4⟩, kS, compS, g3, g4, g1, g5⟩
    | 3, hq => cases hq; exact ⟨fun n z => ⟨fun k h => (by cases h), kW, j3, compW, j4⟩, kW, compW, j3, j4, j1, j5⟩
    | k + 4, hq => simp [tysG] at hq
theorem lw_ZG {s : State} {b : Nat} (hts : ∀ w ∈ lw_tbl, w.before #[Value.ref b] s = true) (hgv : (Jvm.Cond.and given_1 narrow_1).before #[Value.ref b] s = true) : ZG (fun q : Nat => s.heap.size ≤ q) s := by
  have hf := flat_of_before _ hgv
  have hA : ∀ a : Nat, a < s.heap.size → ¬ (fun q : Nat => s.heap.size ≤ q) a := fun a h => Nat.not_le.mpr h
  refine ⟨⟨vx_Zqof (hts _ (by decide +kernel)) (hts _ (by decide +kernel)) (hf _ (by decide +kernel)) hA, vx_Zqof (hts _ (by decide +kernel)) (hts _ (by decide +kernel)) (hf _ (by decide +kernel)) hA⟩, ⟨?_, ?_, ?_, ?_⟩, ⟨va_AO.of (hts _ (by decide +kernel)), va_AO.of (hts _ (by decide +kernel))⟩, fun q hq => va_Nw.of rfl (hts _ (lw_cast q hq)), fun q hq => va_Nw.of rfl (hts _ (lw_decl q hq)), va_Nc.of (hf _ (by decide +kernel))⟩
  · obtain ⟨a, c, cA, kA, q1, -⟩ := Cond.exactly_spec (args := #[Value.ref b]) (first := s) (o := none) (s := s) (idx := []) (t := .string RX9 9) (cls := "java/lang/String") (hf (.exactly (.string RX9 9) "java/lang/String") (by decide +kernel))
    exact ⟨a, vk_R.of (hts (.stringRef RX9 9 "a walker fails") (by decide +kernel)) q1⟩
  · obtain ⟨a, c, cA, kA, q1, -⟩ := Cond.exactly_spec (args := #[Value.ref b]) (first := s) (o := none) (s := s) (idx := []) (t := .string RX11 288) (cls := "java/lang/String") (hf (.exactly (.string RX11 288) "java/lang/String") (by decide +kernel))
    exact ⟨a, vk_R.of (hts (.stringRef RX11 288 "no such shelf") (by decide +kernel)) q1⟩
  · obtain ⟨a, c, cA, kA, q1, -⟩ := Cond.exactly_spec (args := #[Value.ref b]) (first := s) (o := none) (s := s) (idx := []) (t := .string RX11 295) (cls := "java/lang/String") (hf (.exactly (.string RX11 295) "java/lang/String") (by decide +kernel))
    exact ⟨a, vk_R.of (hts (.stringRef RX11 295 "no row") (by decide +kernel)) q1⟩
  · obtain ⟨a, c, cA, kA, q1, -⟩ := Cond.exactly_spec (args := #[Value.ref b]) (first := s) (o := none) (s := s) (idx := []) (t := .string RX11 298) (cls := "java/lang/String") (hf (.exactly (.string RX11 298) "java/lang/String") (by decide +kernel))
    exact ⟨a, vk_R.of (hts (.stringRef RX11 298 "no such place") (by decide +kernel)) q1⟩
theorem lw_wk0 (γ : GX) (a : Nat → Nat) : WkN γ a C5 (fun _ => 0) (fun _ => 0) (fun _ => 0) (fun _ => 0) (fun _ => 0) (fun _ => 0) 0 (fun _ => 0, 0, 0, fun _ => 0, fun _ => 0, fun _ => 0, fun _ => 0, fun _ => 0, fun _ => 0, fun _ => 0, fun _ => 0, fun _ => 0) 0 (WM γ a (fun _ => 5) 0 (fun _ => 0) (fun _ => 0) (fun _ => 0) (fun _ => 0) (fun _ => 0) 0 (fun _ => 0) (fun _ => 0) (fun _ => 0) (fun _ => 0) (fun _ => 0) (fun _ => 0) 0 0 (fun _ => 0) (fun _ => 0) 0 0 0 0 (fun _ => 0) (fun _ => 0) (fun _ => 0) (fun _ => 0) (fun _ => 0) 0 0 0 .null (fun _ => 0) 0 (fun _ => 0)) := by
  unfold WkN
  rw [PCQ_0]
  exact ⟨_, _, _, _, _, _, _, _, _, _, _, _, _, _, _, _, rfl⟩
theorem lw_ni0 : NI C5 := by
  refine ⟨⟨by show 0 ≤ (0 : Int) ∧ (0 : Int) ≤ 6; omega, fun i => by show 0 ≤ (5 : Int) ∧ (5 : Int) ≤ 20; omega, fun i => by show 0 ≤ (0 : Int) ∧ (0 : Int) ≤ 7; omega, fun i => by show 0 ≤ (0 : Int) ∧ (0 : Int) ≤ 9; omega, fun i => by show 0 ≤ (0 : Int) ∧ (0 : Int) ≤ 120; omega, fun i => by show 0 ≤ (0 : Int) ∧ (0 : Int) ≤ 14; omega, fun i => by show -1 ≤ (0 : Int) ∧ (0 : Int) ≤ 1; omega, fun i => by show 0 ≤ (0 : Int) ∧ (0 : Int) ≤ 16; omega, fun i => by show 0 ≤ (0 : Int) ∧ (0 : Int) ≤ 2; omega, fun i => by show 0 ≤ (0 : Int) ∧ (0 : Int) ≤ 6; omega⟩, by show 0 ≤ (0 : Int) ∧ (0 : Int) ≤ 999; omega, srL (fun _ => 0) (fun _ => 0), (fun _ => 0), rfl, fun i h0 h1 => ?_⟩
  have h1 : i < 0 := h1
  omega
theorem lw_inv0 : INV (fun _ => (0, 0, 0, 0, 0, fun _ => 0)) C5 C5 0 (fun _ => 0) (fun _ => 0) (fun _ => 0) (fun _ => 0) (fun _ => 0) (fun _ => 0) (fun _ => 0, 0, 0, fun _ => 0, fun _ => 0, fun _ => 0, fun _ => 0, fun _ => 0, fun _ => 0, fun _ => 0, fun _ => 0, fun _ => 0) := by
  refine ⟨lw_ni0, lw_ni0, Or.inl rfl, fun h => absurd h (by decide), fun t _ => ?_, ?_, fun d _ _ => ⟨⟨rfl, rfl, rfl⟩, fun _ => ⟨rfl, rfl⟩, fun _ _ _ => rfl⟩⟩
  · refine ⟨?_, ?_, ?_, ?_, ?_, fun i => ?_⟩
    · show 0 ≤ (0 : Int) ∧ (0 : Int) ≤ 2; omega
    · show 0 ≤ (0 : Int) ∧ (0 : Int) ≤ 7; omega
    · show 0 ≤ (0 : Int) ∧ (0 : Int) ≤ 9; omega
    · show 0 ≤ (0 : Int) ∧ (0 : Int) ≤ 2; omega
    · show 0 ≤ (0 : Int) ∧ (0 : Int) ≤ 100; omega
    · show -2147483648 ≤ (0 : Int) ∧ (0 : Int) ≤ 2147483647; omega
  · refine ⟨fun i => ?_, fun i => ?_, fun i => ?_, fun i => ?_, fun i => ?_, fun i => ?_⟩
    · show 0 ≤ (0 : Int) ∧ (0 : Int) ≤ 2; omega
    · show 0 ≤ (0 : Int) ∧ (0 : Int) ≤ 7; omega
    · show 0 ≤ (0 : Int) ∧ (0 : Int) ≤ 9; omega
    · show 0 ≤ (0 : Int) ∧ (0 : Int) ≤ 2; omega
    · show 0 ≤ (0 : Int) ∧ (0 : Int) ≤ 100; omega
    · show -2147483648 ≤ (0 : Int) ∧ (0 : Int) ≤ 2147483647; omega
